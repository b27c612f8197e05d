import java.lang.reflect.Constructor;
import java.lang.reflect.Field;
import java.lang.reflect.Method;
import java.lang.reflect.Modifier;
import java.util.ArrayList;
import java.util.Arrays;
import java.util.HashSet;
import java.util.List;
import java.util.Set;
import java.util.TreeSet;

/** The face of the document, and what of LANGUAGE.md reflection can tell. */
public final class FaceTest {
    private static final Checks CHECKS = new Checks("FaceTest");
    private static final String INDEX = "IndexOutOfBoundsException";
    private static final String ARGUMENT = "IllegalArgumentException";
    private static final String STATE = "IllegalStateException";
    private static final String[] METHODS = {
        "int addLine(int, int) " + ARGUMENT + " " + STATE,
        "int addPattern(int, int, int, int, boolean) " + INDEX + " " + ARGUMENT + " " + STATE,
        "int addHashed(int, int, int, int, int) " + ARGUMENT + " " + STATE,
        "int remove(int) " + INDEX,
        "int certify(int, int, int, int, int, int, int) " + ARGUMENT + " " + STATE,
        "int revokeSpan(int, int, int) " + ARGUMENT + " " + STATE,
        "int setFirstSight(int, boolean) " + ARGUMENT,
        "int answer(int, int, int, int) " + INDEX + " " + ARGUMENT,
        "int confirm() " + STATE,
        "int turn(int, int, int, int, int) " + ARGUMENT + " " + STATE,
        "int pass(int) " + ARGUMENT + " " + STATE,
        "int clean(int) " + ARGUMENT,
        "int judge(int, int, int, int) " + INDEX + " " + ARGUMENT,
        "int judgeByReading(int, int, int) " + ARGUMENT,
        "int day()",
        "int lines()",
        "int keyOf(int) " + INDEX,
        "int seen(int) " + INDEX,
        "int end(int) " + INDEX,
        "boolean matches(int, int, int) " + INDEX + " " + ARGUMENT,
        "int find(int, int) " + ARGUMENT,
        "long linesOf(int) " + ARGUMENT,
        "int waiting()"};
    private static final String[] CONSTANTS = {
        "NONE=-1", "PLAIN=0", "REVOKED_MARK=1", "AUTHORITY=2", "REVOKED=0", "CERTIFIED=1", "TRUSTED=2",
        "CHANGED=3", "OTHER=4", "NEW=5", "ACCEPT=0", "ASK=1", "REFUSE=2"};

    public static void main(String[] args) throws IllegalAccessException {
        methods();
        constants();
        members();
        CHECKS.finish();
    }

    private static void sameSets(String what, Set<String> got, String[] due) {
        Set<String> missing = new TreeSet<>(Arrays.asList(due));
        missing.removeAll(got);
        Set<String> extra = new TreeSet<>(got);
        extra.removeAll(Arrays.asList(due));
        CHECKS.yes(what + ", missing " + missing + ", extra " + extra, missing.isEmpty() && extra.isEmpty());
    }

    private static void methods() {
        Set<String> got = new HashSet<>();
        Set<String> publicNames = new HashSet<>();
        List<Method> own = new ArrayList<>();
        for (Method method : HostKeyring.class.getDeclaredMethods()) {
            if (Modifier.isPublic(method.getModifiers())) {
                got.add(signature(method));
                publicNames.add(method.getName());
            } else {
                own.add(method);
            }
        }
        sameSets("the public methods", got, METHODS);
        for (Method method : own) {
            CHECKS.yes(method + " is private", Modifier.isPrivate(method.getModifiers()));
            CHECKS.no(method + " bears the name of a public one", publicNames.contains(method.getName()));
            CHECKS.yes(method + " has at most seven parameters", method.getParameterCount() <= 7);
        }
    }

    private static String signature(Method method) {
        List<String> parameters = new ArrayList<>();
        for (Class<?> type : method.getParameterTypes()) {
            parameters.add(type.getSimpleName());
        }
        StringBuilder text = new StringBuilder(method.getReturnType().getSimpleName());
        text.append(' ').append(method.getName()).append('(').append(String.join(", ", parameters)).append(')');
        for (Class<?> type : method.getExceptionTypes()) {
            text.append(' ').append(type.getSimpleName());
        }
        return text.toString();
    }

    private static void constants() throws IllegalAccessException {
        Set<String> got = new HashSet<>();
        for (Field field : HostKeyring.class.getDeclaredFields()) {
            if (Modifier.isPublic(field.getModifiers())) {
                CHECKS.same(field + " is static and final",
                        field.getModifiers(), Modifier.PUBLIC | Modifier.STATIC | Modifier.FINAL);
                CHECKS.yes(field + " is an int", field.getType() == int.class);
                got.add(field.getName() + "=" + field.getInt(null));
            }
        }
        sameSets("the constants", got, CONSTANTS);
    }

    private static void members() {
        CHECKS.same("the class is public and final",
                HostKeyring.class.getModifiers(), Modifier.PUBLIC | Modifier.FINAL);
        Constructor<?>[] constructors = HostKeyring.class.getDeclaredConstructors();
        CHECKS.same("constructors", constructors.length, 1);
        CHECKS.same("the constructor is public", constructors[0].getModifiers(), Modifier.PUBLIC);
        CHECKS.same("the constructor's parameters", constructors[0].getParameterCount(), 0);
        List<Class<?>> classes = new ArrayList<>(List.of(HostKeyring.class.getDeclaredClasses()));
        CHECKS.yes("at most twelve classes", classes.size() <= 12);
        for (Class<?> inner : classes) {
            CHECKS.yes(inner + " is static", Modifier.isStatic(inner.getModifiers()));
            CHECKS.no(inner + " is public", Modifier.isPublic(inner.getModifiers()));
        }
        classes.add(HostKeyring.class);
        for (Class<?> each : classes) {
            int held = 0;
            for (Field field : each.getDeclaredFields()) {
                int modifiers = field.getModifiers();
                held += Modifier.isStatic(modifiers) ? 0 : 1;
                CHECKS.yes(field + " is private or a constant",
                        Modifier.isPrivate(modifiers) || Modifier.isStatic(modifiers));
                CHECKS.yes(field + ", if static, is final",
                        !Modifier.isStatic(modifiers) || Modifier.isFinal(modifiers));
            }
            CHECKS.yes(each + " has at most twenty fields", held <= 20);
        }
    }
}
