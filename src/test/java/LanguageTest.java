import java.io.IOException;
import java.lang.reflect.Field;
import java.lang.reflect.Method;
import java.lang.reflect.Modifier;
import java.nio.charset.StandardCharsets;
import java.nio.file.Files;
import java.nio.file.Path;
import java.util.ArrayList;
import java.util.HashSet;
import java.util.List;
import java.util.Set;
import java.util.regex.Matcher;
import java.util.regex.Pattern;

/** Those rules of LANGUAGE.md that can be seen in the text and the members of the class. */
public final class LanguageTest {
    private static final Due due = new Due();

    public static void main(String[] args) throws IOException {
        String source = Files.readString(Path.of("src/main/java/UnionClock.java"), StandardCharsets.US_ASCII);
        String code = withoutCommentsAndTexts(source);
        words(code);
        thrown(code);
        members();
        methodLengths(code);
        due.end();
    }

    private static String withoutCommentsAndTexts(String source) {
        return source.replaceAll("(?s)/\\*.*?\\*/", " ").replaceAll("//[^\n]*", " ")
                .replaceAll("\"[^\"\n]*\"", "\"\"").replaceAll("'[^'\n]'", "' '");
    }

    private static void words(String code) {
        due.promise("LANGUAGE.md, words that are ruled out");
        String[] ruledOut = {
            "\\bpackage\\b", "\\bimport\\b", "->", "::", "\\bfinally\\b", "\\bsynchronized\\b", "\\bassert\\b",
            "\\bvar\\b", "\\bthis\\.getClass\\b", "\\bextends\\s+\\w*Exception\\b", "\"\"\\s*\\+", "\\+\\s*\"\"",
            "Exact\\b", "\\bhashCode\\b", "\\btoString\\b", "\\bstatic\\s*\\{", "\\bSystem\\.(?!arraycopy)",
            "\\bcatch\\b", "\\bthrow\\s+(?!new\\b)", "\\bgetMessage\\b", "\\bvolatile\\b", "\\bnative\\b",
        };
        for (String word : ruledOut) {
            due.no(word + " is found", Pattern.compile(word).matcher(code).find());
        }
    }

    private static void thrown(String code) {
        due.promise("LANGUAGE.md, rule 6");
        Matcher thrown = Pattern.compile("\\bthrow new (\\w+)\\((\"\")?\\);").matcher(code);
        int found = 0;
        while (thrown.find()) {
            found++;
            due.yes(thrown.group(1), Set.of("IndexOutOfBoundsException", "IllegalArgumentException",
                    "IllegalStateException").contains(thrown.group(1)));
        }
        due.is("throws with a written text", found, code.split("\\bthrow\\b", -1).length - 1);
    }

    private static void members() {
        due.promise("LANGUAGE.md, rules 1, 5 and 11");
        List<Class<?>> all = new ArrayList<>(List.of(UnionClock.class.getDeclaredClasses()));
        all.add(UnionClock.class);
        due.yes("at most 12 classes", all.size() <= 12);
        Set<String> face = new HashSet<>();
        for (Method method : UnionClock.class.getMethods()) {
            face.add(method.getName());
        }
        for (Class<?> one : all) {
            fields(one);
            for (Method method : one.getDeclaredMethods()) {
                due.yes("parameters of " + method, method.getParameterCount() <= 7);
                due.no(method + " bears the name of a public one",
                        !Modifier.isPublic(method.getModifiers()) && face.contains(method.getName()));
            }
        }
    }

    private static void fields(Class<?> one) {
        int ownFields = 0;
        for (Field field : one.getDeclaredFields()) {
            if (Modifier.isStatic(field.getModifiers())) {
                due.yes(field + " is final", Modifier.isFinal(field.getModifiers()));
                due.yes(field + " is a constant", field.getType() == int.class);
            } else {
                ownFields++;
            }
        }
        due.yes("at most 20 fields in " + one.getName(), ownFields <= 20);
    }

    /** A method begins where a line that opens a block bears a name and parameters, one or two levels in. */
    private static void methodLengths(String code) {
        due.promise("LANGUAGE.md, rule 11");
        Matcher methods = Pattern.compile("(?ms)^( {4}| {8})(?! )[^\n;=]*\\([^;={]*\\{\n(.*?)^\\1\\}").matcher(code);
        int found = 0;
        while (methods.find()) {
            found++;
            due.yes("at most 60 lines: " + methods.group().split("\n")[0],
                    methods.group().split("\n").length <= 60);
        }
        due.yes("methods are found", found > 60);
    }
}
