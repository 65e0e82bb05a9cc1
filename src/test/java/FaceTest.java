import java.lang.reflect.Constructor;
import java.lang.reflect.Field;
import java.lang.reflect.Method;
import java.lang.reflect.Modifier;
import java.util.Arrays;
import java.util.Set;
import java.util.TreeSet;

/** The public face: its constants, constructor and methods, and nothing besides. */
public final class FaceTest {
    private static final String[] CONSTANTS = {
        "NONE=-1", "REST=0", "WEEK=1", "ROW=2", "LONG=3", "OPEN=0", "PAID=1", "VOID=2", "OWED=3",
    };
    private static final String[] METHODS = {
        "int pass(int) IllegalArgumentException IllegalStateException",
        "int worker(int,int,int) IndexOutOfBoundsException IllegalArgumentException",
        "int shift(int,int,int) IllegalArgumentException IllegalStateException",
        "int hold(int,int) IndexOutOfBoundsException IllegalStateException",
        "int stamp(int,int,int) IndexOutOfBoundsException IllegalArgumentException IllegalStateException",
        "int holder(int) IndexOutOfBoundsException",
        "int shiftOf(int,int) IndexOutOfBoundsException",
        "int rest(int) IndexOutOfBoundsException",
        "int put(char) IllegalArgumentException IllegalStateException",
        "int empty()",
        "int wrongAt()",
        "int read() IllegalArgumentException IllegalStateException",
        "int drop(int) IndexOutOfBoundsException IllegalStateException",
        "boolean breaks(int,int) IndexOutOfBoundsException",
        "int breaches(int,int) IndexOutOfBoundsException IllegalArgumentException",
        "int claims()",
        "int state(int) IndexOutOfBoundsException",
        "int about(int) IndexOutOfBoundsException",
        "int worth(int) IndexOutOfBoundsException",
        "int pay(int) IndexOutOfBoundsException IllegalStateException",
        "int takeBack(int) IndexOutOfBoundsException IllegalStateException",
        "int wages(int) IndexOutOfBoundsException",
        "int offer(int,int) IndexOutOfBoundsException IllegalStateException",
        "int withdraw(int) IndexOutOfBoundsException IllegalStateException",
        "int offers()",
        "int ring(int) IndexOutOfBoundsException",
        "int swap(int) IndexOutOfBoundsException IllegalStateException",
    };

    private static final Due due = new Due();

    public static void main(String[] args) throws IllegalAccessException {
        due.promise("The public face");
        due.is("its modifiers", UnionClock.class.getModifiers(), Modifier.PUBLIC | Modifier.FINAL);
        due.yes("it stands in no package", UnionClock.class.getPackageName().isEmpty());
        Constructor<?>[] constructors = UnionClock.class.getDeclaredConstructors();
        due.is("constructors", constructors.length, 1);
        due.is("its modifiers", constructors[0].getModifiers(), Modifier.PUBLIC);
        due.is("its parameters", constructors[0].getParameterCount(), 0);
        same("constants", constants(), CONSTANTS);
        same("methods", methods(), METHODS);
        classesInside();
        due.end();
    }

    private static void same(String what, Set<String> got, String[] wanted) {
        Set<String> want = new TreeSet<>(Arrays.asList(wanted));
        for (String one : got) {
            due.yes(what + ", one too many: " + one, want.contains(one));
        }
        for (String one : want) {
            due.yes(what + ", missing: " + one, got.contains(one));
        }
    }

    private static Set<String> constants() throws IllegalAccessException {
        int wanted = Modifier.PUBLIC | Modifier.STATIC | Modifier.FINAL;
        Set<String> constants = new TreeSet<>();
        for (Field field : UnionClock.class.getDeclaredFields()) {
            if (!Modifier.isPrivate(field.getModifiers())) {
                due.is("modifiers of " + field.getName(), field.getModifiers(), wanted);
                constants.add(field.getName() + "=" + field.getInt(null));
            }
        }
        return constants;
    }

    private static Set<String> methods() {
        Set<String> methods = new TreeSet<>();
        for (Method method : UnionClock.class.getDeclaredMethods()) {
            if (!Modifier.isPrivate(method.getModifiers())) {
                due.is("modifiers of " + method.getName(), method.getModifiers(), Modifier.PUBLIC);
                methods.add(signature(method));
            }
        }
        return methods;
    }

    private static String signature(Method method) {
        StringBuilder text = new StringBuilder();
        text.append(method.getReturnType().getSimpleName()).append(' ').append(method.getName()).append('(');
        for (Class<?> type : method.getParameterTypes()) {
            text.append(text.charAt(text.length() - 1) == '(' ? "" : ",").append(type.getSimpleName());
        }
        text.append(')');
        for (Class<?> type : method.getExceptionTypes()) {
            text.append(' ').append(type.getSimpleName());
        }
        return text.toString();
    }

    private static void classesInside() {
        for (Class<?> inside : UnionClock.class.getDeclaredClasses()) {
            int modifiers = inside.getModifiers();
            due.yes(inside.getName() + " is static", Modifier.isStatic(modifiers));
            due.no(inside.getName() + " is public or protected",
                    Modifier.isPublic(modifiers) || Modifier.isProtected(modifiers));
        }
    }
}
