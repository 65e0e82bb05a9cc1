import java.io.IOException;
import java.lang.reflect.Method;
import java.lang.reflect.Modifier;
import java.net.URL;
import java.net.URLClassLoader;
import java.nio.file.Files;
import java.nio.file.Path;
import java.util.ArrayList;
import java.util.List;
import java.util.regex.Matcher;
import java.util.regex.Pattern;
import javax.tools.ToolProvider;

/** README.md: each call in it that has a comment behind it answers what the comment begins with. */
public final class ReadmeTest {
    private static final Pattern CALL = Pattern.compile("(?:int (\\w+) = )?(clock\\.\\w+\\(.*\\)); *// ([-\\w]+).*");
    private static final Pattern NAME = Pattern.compile("clock\\.(\\w+)\\(");
    private static final Due due = new Due();

    private final List<String> calls = new ArrayList<>();
    private final List<String> wants = new ArrayList<>();
    private final StringBuilder body = new StringBuilder();

    public static void main(String[] args) throws IOException, ReflectiveOperationException {
        due.promise("README.md");
        String page = Files.readString(Path.of("README.md"));
        ReadmeTest readme = new ReadmeTest();
        readme.gather(page);
        List<String> gots = readme.answers();
        due.is("answers", gots.size(), readme.wants.size());
        for (int i = 0; i < gots.size(); i++) {
            due.same(readme.calls.get(i), gots.get(i), readme.wants.get(i));
        }
        eachCallIsShown(page);
        eachTestIsNamed(page);
        due.end();
    }

    private void gather(String page) {
        boolean isJava = false;
        for (String line : page.split("\n")) {
            if (line.startsWith("```")) {
                isJava = line.equals("```java");
            } else if (isJava) {
                add(line);
            }
        }
    }

    private void add(String line) {
        Matcher call = CALL.matcher(line);
        if (!call.matches()) {
            due.no("the comment behind '" + line + "' begins with no answer", line.contains("//"));
            body.append(line).append('\n');
            return;
        }
        calls.add(call.group(2));
        wants.add(call.group(3));
        if (call.group(1) != null) {
            body.append("int ").append(call.group(1)).append(" = ").append(call.group(2)).append(";\n");
            body.append("answers.add(\"\" + ").append(call.group(1)).append(");\n");
        } else {
            body.append("try { answers.add(\"\" + ").append(call.group(2)).append("); }\n");
            body.append("catch (RuntimeException e) { answers.add(e.getClass().getSimpleName()); }\n");
        }
    }

    private List<String> answers() throws IOException, ReflectiveOperationException {
        Path folder = Files.createTempDirectory("readme");
        Path source = folder.resolve("Readme.java");
        Files.writeString(source, "public final class Readme {\n"
                + "public static java.util.List<String> answers() {\n"
                + "java.util.List<String> answers = new java.util.ArrayList<>();\n" + body + "return answers;\n}\n}\n");
        int failed = ToolProvider.getSystemJavaCompiler().run(null, null, null, "-cp",
                System.getProperty("java.class.path"), "-d", folder.toString(), source.toString());
        due.is("the compiler", failed, 0);
        List<String> answers = new ArrayList<>();
        if (failed == 0) {
            try (URLClassLoader loader = new URLClassLoader(new URL[] {folder.toUri().toURL()})) {
                List<?> gots = (List<?>) loader.loadClass("Readme").getMethod("answers").invoke(null);
                gots.forEach(got -> answers.add((String) got));
            }
        }
        Files.deleteIfExists(folder.resolve("Readme.class"));
        Files.deleteIfExists(source);
        Files.deleteIfExists(folder);
        return answers;
    }

    private static void eachCallIsShown(String page) {
        Matcher name = NAME.matcher(page);
        List<String> shown = new ArrayList<>();
        while (name.find()) {
            shown.add(name.group(1));
        }
        for (Method method : UnionClock.class.getDeclaredMethods()) {
            if (Modifier.isPublic(method.getModifiers())) {
                due.yes(method.getName() + " is shown", shown.contains(method.getName()));
            }
        }
    }

    private static void eachTestIsNamed(String page) throws IOException {
        try (var tests = Files.list(Path.of("src/test/java"))) {
            for (Path test : (Iterable<Path>) tests::iterator) {
                String name = test.getFileName().toString().replace(".java", "");
                due.yes(name + " is named", page.contains("`" + name + "`"));
            }
        }
    }
}
