import java.io.IOException;
import java.util.ArrayList;
import java.util.Arrays;
import java.util.HashSet;
import java.util.LinkedHashMap;
import java.util.List;
import java.util.Map;
import java.util.Set;
import java.util.regex.Matcher;
import java.util.regex.Pattern;

/**
 * What of LANGUAGE.md can be told by the text of the program: each check names the rule. What reflection
 * can tell is in FaceTest.
 */
public final class LanguageTest {
    private static final Checks CHECKS = new Checks("LanguageTest");
    private static final String EXCEPTION = "(IllegalStateException|IllegalArgumentException|IndexOutOfBoundsException)";
    private static final Pattern HEADER =
            Pattern.compile("(\\w+)\\s*\\(([^()]*)\\)\\s*(throws [\\w,\\s]+)?$");
    private static final Set<String> NO_METHODS = Set.of("if", "for", "while", "switch", "catch");

    /** A method or a constructor: its parameters, and its text with the header. */
    private static final class Method {
        private final String name;
        private final String parameters;
        private final String text;

        private Method(String name, String parameters, String text) {
            this.name = name;
            this.parameters = parameters;
            this.text = text;
        }
    }

    private final String whole;
    /** Without comments, and with empty strings for strings. */
    private final String code;
    private final List<Method> methods = new ArrayList<>();
    private final Map<String, Integer> depths = new LinkedHashMap<>();
    private final Set<String> open = new HashSet<>();

    private LanguageTest(String whole) {
        this.whole = whole;
        code = whole.replaceAll("\"[^\"\n]*\"", "\"\"")
                .replaceAll("(?s)/\\*.*?\\*/", "").replaceAll("//[^\n]*", "");
        findMethods();
    }

    public static void main(String[] args) throws IOException {
        LanguageTest test = new LanguageTest(Project.program());
        test.methodsAreFound();
        test.words();
        test.texts();
        test.names();
        test.exceptions();
        test.divisors();
        test.loops();
        test.newObjects();
        test.sizes();
        test.depth();
        CHECKS.finish();
    }

    private void findMethods() {
        int start = 0;
        for (int i = 0; i < code.length(); i++) {
            char sign = code.charAt(i);
            if (sign == '{') {
                Matcher header = HEADER.matcher(code.substring(start, i).strip());
                if (header.find() && !NO_METHODS.contains(header.group(1))) {
                    int end = endOfBlock(i);
                    methods.add(new Method(header.group(1), header.group(2), code.substring(start, end).strip()));
                    i = end - 1;
                }
            }
            if (sign == '{' || sign == '}' || sign == ';') {
                start = i + 1;
            }
        }
    }

    private int endOfBlock(int begin) {
        int depth = 0;
        for (int i = begin; i < code.length(); i++) {
            depth += code.charAt(i) == '{' ? 1 : code.charAt(i) == '}' ? -1 : 0;
            if (depth == 0) {
                return i + 1;
            }
        }
        return code.length();
    }

    private static int count(String pattern, String text) {
        return (int) Pattern.compile(pattern).matcher(text).results().count();
    }

    private void none(String what, String pattern) {
        CHECKS.same(what, count(pattern, code), 0);
    }

    /** So that the checks below look at something. */
    private void methodsAreFound() {
        Set<String> names = new HashSet<>();
        for (Method method : methods) {
            CHECKS.yes("one method only is called " + method.name, names.add(method.name));
        }
        for (java.lang.reflect.Method method : HostKeyring.class.getDeclaredMethods()) {
            CHECKS.yes(method.getName() + " is found", names.contains(method.getName()));
        }
    }

    private void words() {
        for (String word : new String[] {
            "import", "package", "protected", "enum", "interface", "abstract", "synchronized", "assert", "var",
            "volatile", "native", "goto", "transient", "strictfp", "record", "sealed", "yield"}) {
            none("the word " + word + " is used", "\\b" + word + "\\b");
        }
        none("rule 2: a lambda or a method reference", "->|::");
        none("rule 5: a static block", "static\\s*\\{");
        none("rule 6: a caught exception", "\\b(try|catch|finally)\\b");
        none("rule 6: a method of every object", "\\b(equals|hashCode|toString|getClass)\\b");
        none("rule 7: a cast", "\\(\\s*(int|long|short|byte|char|[A-Z]\\w*)\\s*\\)\\s*[\\w(]");
        none("rule 9: a loop without a counter", "\\b(while|do)\\b");
    }

    private void texts() {
        CHECKS.yes("rule 4: all signs are 1 to 127", whole.chars().allMatch(sign -> sign >= 1 && sign <= 127));
        none("rule 10: texts joined by +", "\"\"\\s*\\+|\\+\\s*\"\"");
        none("rule 4: a tab, which the text does without", "\t");
    }

    /** Rules 3 and 4: what begins like a class is a constant or a class of the program, or stands in the rules. */
    private void names() {
        Set<String> known = new HashSet<>(Set.of("HostKeyring", "Math",
                "IllegalStateException", "IllegalArgumentException", "IndexOutOfBoundsException"));
        for (Class<?> inner : HostKeyring.class.getDeclaredClasses()) {
            known.add(inner.getSimpleName());
        }
        Arrays.stream(HostKeyring.class.getDeclaredFields()).forEach(field -> known.add(field.getName()));
        Matcher word = Pattern.compile("\\b[A-Z]\\w*").matcher(code);
        while (word.find()) {
            CHECKS.yes("rule 4: " + word.group() + " is known", known.contains(word.group()));
        }
        none("rule 4: a function of Math that is not asked for here", "\\bMath\\.(?!(min|max)\\()");
        none("rule 3: a type that is not used here", "\\b(double|float|short|byte|char)\\b");
    }

    private void exceptions() {
        int thrown = count("\\bthrow\\b", code);
        CHECKS.yes("something is thrown", thrown > 0);
        CHECKS.same("rule 6: each throw makes what the document names, with a written text",
                count("\\bthrow new " + EXCEPTION + "\\(\"\"\\);", code), thrown);
        for (Method method : methods) {
            if (Character.isUpperCase(method.name.charAt(0))) {
                CHECKS.same("rule 6: throws in a constructor", count("\\bthrow\\b", method.text), 0);
                CHECKS.same("rule 12: calls of a constructor", count("(?<!new )\\b[a-z]\\w*\\(", method.text
                        .replaceAll("\\bfor \\(", "")), 0);
            }
        }
    }

    /** Rule 7: each divisor is a number that is written there, and not 0. */
    private void divisors() {
        int divisions = count("[/%]", code);
        CHECKS.yes("something is divided", divisions > 0);
        CHECKS.same("rule 7: divisors", count("[/%]=? [1-9]\\d*\\b", code), divisions);
    }

    /** Rule 9: a counter, called i or place, that goes up below a bound, or down to 0. */
    private void loops() {
        int loops = count("\\bfor\\b", code);
        CHECKS.yes("there are loops", loops > 0);
        CHECKS.same("rule 9: loops with a counter", count("\\bfor \\(int (i|place) = [^;]+; "
                + "(\\1 < [^;|]+; \\1\\+\\+|\\1 >= 0; \\1--)\\)", code), loops);
        CHECKS.same("rule 9: counters changed elsewhere",
                count("\\b(i|place)(\\+\\+|--| [+*/-]?= )", code.replaceAll("\\bfor \\([^;]*;[^;]*;[^{]*\\{", "")), 0);
    }

    /** Rule 12: a method makes one object at most, and none in a loop; the constructor makes the rows. */
    private void newObjects() {
        for (Method method : methods) {
            int made = count("(?<!throw )\\bnew\\b", method.text);
            if (made > 0 && !method.name.equals("HostKeyring")) {
                CHECKS.same("rule 12: objects made in " + method.name, made, 1);
                CHECKS.same("rule 12: loops in " + method.name, count("\\bfor\\b", method.text), 0);
            }
        }
    }

    private void sizes() {
        for (Method method : methods) {
            int parameters = method.parameters.isBlank() ? 0 : method.parameters.split(",").length;
            CHECKS.yes("rule 11: at most seven parameters of " + method.name, parameters <= 7);
            CHECKS.yes("rule 11: at most sixty lines of " + method.name, method.text.lines().count() <= 60);
        }
        CHECKS.yes("rule 11: at most twelve classes", count("\\bclass\\b", code) <= 12);
    }

    /** Rules 8 and 11: no method calls itself, by others either, and calls go at most eight deep. */
    private void depth() {
        for (Method method : methods) {
            CHECKS.yes("rule 11: the calls that " + method.name + " makes", depthOf(method) <= 8);
        }
        CHECKS.yes("calls are seen", depths.getOrDefault("answer", 0) > 3);
    }

    private int depthOf(Method method) {
        if (depths.containsKey(method.name)) {
            return depths.get(method.name);
        }
        CHECKS.yes("rule 8: " + method.name + " does not call itself", open.add(method.name));
        int deepest = 0;
        for (Method called : methods) {
            boolean isCalled = count("\\b" + called.name + "\\(", bodyOf(method)) > 0;
            if (isCalled && !open.contains(called.name)) {
                deepest = Math.max(deepest, depthOf(called));
            } else {
                CHECKS.no("rule 8: " + method.name + " calls " + called.name + " again", isCalled);
            }
        }
        open.remove(method.name);
        depths.put(method.name, deepest + 1);
        return deepest + 1;
    }

    private static String bodyOf(Method method) {
        return method.text.substring(method.text.indexOf('{'));
    }
}
