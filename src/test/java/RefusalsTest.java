import java.util.List;
import java.util.function.Supplier;

/**
 * The throws clauses: every argument on both sides of both its bounds, in books that take the call and in
 * books that refuse it; which exception goes first where more than one line of a clause applies; and that
 * a call that throws changes nothing.
 */
public final class RefusalsTest {
    private static final Checks CHECKS = new Checks("RefusalsTest");
    private static final int NONE = HostKeyring.NONE;
    private static final String TAKEN = "taken";
    private static final String INDEX = "IndexOutOfBoundsException";
    private static final String ARGUMENT = "IllegalArgumentException";
    private static final String STATE = "IllegalStateException";

    private interface Call {
        long on(HostKeyring x, int[] values);
    }

    private interface WrittenCall {
        long on(HostKeyring x);
    }

    /** An argument, with a value that is in order, and what it throws outside its bounds. */
    private static final class Argument {
        private final String name;
        private final int usual;
        private final int least;
        private final int most;
        private final String outside;

        private Argument(String name, int usual, int least, int most, String outside) {
            this.name = name;
            this.usual = usual;
            this.least = least;
            this.most = most;
            this.outside = outside;
        }

        private int[] valuesInside() {
            return new int[] {least, usual, most};
        }

        private int[] valuesOutside() {
            return new int[] {least - 1, most + 1, Integer.MIN_VALUE, Integer.MAX_VALUE};
        }
    }

    private static final Argument MARK = range("mark", 0, 0, 2);
    private static final Argument KEY = range("key", 6, 0, 199);
    private static final Argument NAME = range("name", 5, 0, 9999);
    private static final Argument PLACES = range("places", 3, 0, 15);
    private static final Argument PORT = range("port", 0, 0, 3);
    private static final Argument SALT = range("salt", 7, 0, 99);
    private static final Argument AUTHORITY = range("authority", 60, 0, 199);
    private static final Argument LINE_OF_THREE = new Argument("line", 1, 0, 2, INDEX);
    private static final Argument LINE_OF_SIX = new Argument("line", 1, 0, 5, INDEX);
    private static final Argument CERTIFICATE_OF_TWO = new Argument("certificate", 0, NONE, 1, INDEX);

    /** A call that is made on books that take it and on books that refuse it. */
    private static final class Row {
        private final String name;
        private final Argument[] arguments;
        private final Call call;

        private Row(String name, Call call, Argument... arguments) {
            this.name = name;
            this.arguments = arguments;
            this.call = call;
        }

        private void isTakenBy(Supplier<HostKeyring> book) {
            check(book, TAKEN);
        }

        private void isRefusedBy(Supplier<HostKeyring> book) {
            check(book, STATE);
        }

        private void check(Supplier<HostKeyring> book, String dueInside) {
            String untouched = Portrait.of(book.get());
            for (int i = 0; i < arguments.length; i++) {
                for (int value : arguments[i].valuesInside()) {
                    outcomeIs(book, untouched, with(i, value), dueInside);
                }
                for (int value : arguments[i].valuesOutside()) {
                    outcomeIs(book, untouched, with(i, value), arguments[i].outside);
                }
                for (int j = i + 1; j < arguments.length; j++) {
                    bothOutside(book, untouched, i, j);
                }
            }
        }

        private void bothOutside(Supplier<HostKeyring> book, String untouched, int i, int j) {
            boolean isIndex = arguments[i].outside.equals(INDEX) || arguments[j].outside.equals(INDEX);
            for (int one : new int[] {arguments[i].least - 1, arguments[i].most + 1}) {
                for (int other : new int[] {arguments[j].least - 1, arguments[j].most + 1}) {
                    int[] values = with(i, one);
                    values[j] = other;
                    outcomeIs(book, untouched, values, isIndex ? INDEX : ARGUMENT);
                }
            }
        }

        private int[] with(int which, int value) {
            int[] values = new int[arguments.length];
            for (int i = 0; i < values.length; i++) {
                values[i] = i == which ? value : arguments[i].usual;
            }
            return values;
        }

        private void outcomeIs(Supplier<HostKeyring> book, String untouched, int[] values, String due) {
            if (due.equals(TAKEN)) {
                HostKeyring x = book.get();
                String got = Checks.outcome(() -> call.on(x, values));
                CHECKS.no(told(values) + " threw " + got, got.endsWith("Exception"));
            } else {
                refused(told(values), book.get(), untouched, x -> call.on(x, values), due);
            }
        }

        private String told(int[] values) {
            StringBuilder text = new StringBuilder(name);
            for (int i = 0; i < values.length; i++) {
                text.append(' ').append(arguments[i].name).append(' ').append(values[i]);
            }
            return text.toString();
        }
    }

    public static void main(String[] args) {
        addLine();
        addPattern();
        addHashed();
        certify();
        revokeSpan();
        setFirstSight();
        answer();
        confirm();
        turn();
        turnToTheSameKey();
        pass();
        clean();
        judge();
        callsWithALineAlone();
        matches();
        findAndLinesOf();
        anEmptyBookHasNoLine();
        CHECKS.finish();
    }

    private static Argument range(String name, int usual, int least, int most) {
        return new Argument(name, usual, least, most, ARGUMENT);
    }

    private static void addLine() {
        Row row = new Row("addLine", (x, v) -> x.addLine(v[0], v[1]), MARK, KEY);
        row.isTakenBy(Books::usual);
        row.isRefusedBy(Books::full);
    }

    private static void addPattern() {
        Row row = new Row("addPattern", (x, v) -> x.addPattern(v[0], v[1], v[2], v[3], false),
                LINE_OF_THREE, NAME, PLACES, PORT);
        row.isTakenBy(Books::open);
        row.isRefusedBy(Books::hashed);
        row.isRefusedBy(Books::patterned);
    }

    private static void addHashed() {
        Row row = new Row("addHashed", (x, v) -> x.addHashed(v[0], v[1], v[2], v[3], v[4]),
                MARK, KEY, NAME, PORT, SALT);
        row.isTakenBy(Books::usual);
        row.isRefusedBy(Books::full);
    }

    private static void certify() {
        Row row = new Row("certify", (x, v) -> x.certify(v[0], v[1], v[2], v[3], v[4], v[5], v[6]),
                AUTHORITY, KEY, NAME, PLACES, range("serial", 500, 0, 999),
                range("first", 40, 0, 5000), range("last", 5000, 40, 5000));
        row.isTakenBy(Books::usual);
        row.isRefusedBy(Books::certified);
    }

    private static void revokeSpan() {
        Row row = new Row("revokeSpan", (x, v) -> x.revokeSpan(v[0], v[1], v[2]),
                AUTHORITY, range("from", 40, 0, 999), range("to", 999, 40, 999));
        row.isTakenBy(Books::usual);
        row.isRefusedBy(Books::spanned);
    }

    private static void setFirstSight() {
        new Row("setFirstSight", (x, v) -> x.setFirstSight(v[0], false), range("rule", 1, 0, 2))
                .isTakenBy(Books::usual);
    }

    private static void answer() {
        Row row = new Row("answer", (x, v) -> x.answer(v[0], v[1], v[2], v[3]),
                NAME, PORT, KEY, CERTIFICATE_OF_TWO);
        row.isTakenBy(Books::usual);
        row.isTakenBy(Books::full);
    }

    private static void confirm() {
        for (Supplier<HostKeyring> book : List.<Supplier<HostKeyring>>of(
                HostKeyring::new, Books::withNothingWaiting, Books::full, Books::fullWithNothingWaiting)) {
            refuses("confirm", book, x -> x.confirm(), STATE);
        }
    }

    private static void turn() {
        Row row = new Row("turn", (x, v) -> x.turn(v[0], v[1], v[2], v[3], v[4]),
                NAME, PORT, range("old", 6, 0, 199), range("other", 7, 0, 199), range("days", 10, 0, 1000));
        row.isTakenBy(Books::usual);
        row.isTakenBy(Books::full);
        row.isRefusedBy(HostKeyring::new);
        row.isRefusedBy(Books::revoked);
    }

    /** "or both keys are the same": a trusted key, a key not trusted, and one that is revoked. */
    private static void turnToTheSameKey() {
        for (int key : new int[] {0, 6, 199, 90, 1}) {
            refuses("turn " + key + " to itself", Books::usual, x -> x.turn(5, 0, key, key, 10), ARGUMENT);
        }
    }

    private static void pass() {
        Row row = new Row("pass", (x, v) -> x.pass(v[0]), range("days", 10, 1, 1000));
        row.isTakenBy(Books::usual);
        row.isRefusedBy(Books::late);
    }

    private static void clean() {
        Row row = new Row("clean", (x, v) -> x.clean(v[0]), range("days", 10, 1, 5000));
        row.isTakenBy(Books::usual);
        row.isTakenBy(HostKeyring::new);
    }

    private static void judge() {
        new Row("judge", (x, v) -> x.judge(v[0], v[1], v[2], v[3]), NAME, PORT, KEY, CERTIFICATE_OF_TWO)
                .isTakenBy(Books::usual);
        new Row("judgeByReading", (x, v) -> x.judgeByReading(v[0], v[1], v[2]), NAME, PORT, KEY)
                .isTakenBy(Books::usual);
    }

    private static void callsWithALineAlone() {
        for (Row row : List.of(
                new Row("remove", (x, v) -> x.remove(v[0]), LINE_OF_SIX),
                new Row("keyOf", (x, v) -> x.keyOf(v[0]), LINE_OF_SIX),
                new Row("seen", (x, v) -> x.seen(v[0]), LINE_OF_SIX),
                new Row("end", (x, v) -> x.end(v[0]), LINE_OF_SIX))) {
            row.isTakenBy(Books::usual);
        }
    }

    private static void matches() {
        new Row("matches", (x, v) -> x.matches(v[0], v[1], v[2]) ? 1 : 0, LINE_OF_SIX, NAME, PORT)
                .isTakenBy(Books::usual);
    }

    private static void findAndLinesOf() {
        new Row("find", (x, v) -> x.find(v[0], v[1]), NAME, PORT).isTakenBy(Books::usual);
        new Row("linesOf", (x, v) -> x.linesOf(v[0]), KEY).isTakenBy(Books::usual);
    }

    private static void anEmptyBookHasNoLine() {
        for (int line : new int[] {-1, 0, 1}) {
            refuses("addPattern " + line, HostKeyring::new, x -> x.addPattern(line, 0, 0, 0, false), INDEX);
            refuses("remove " + line, HostKeyring::new, x -> x.remove(line), INDEX);
            refuses("keyOf " + line, HostKeyring::new, x -> x.keyOf(line), INDEX);
            refuses("seen " + line, HostKeyring::new, x -> x.seen(line), INDEX);
            refuses("end " + line, HostKeyring::new, x -> x.end(line), INDEX);
            refuses("matches " + line, HostKeyring::new, x -> x.matches(line, 0, 0) ? 1 : 0, INDEX);
        }
        for (int certificate : new int[] {-2, 0, 1}) {
            refuses("answer with " + certificate, HostKeyring::new, x -> x.answer(0, 0, 0, certificate), INDEX);
            refuses("judge with " + certificate, HostKeyring::new, x -> x.judge(0, 0, 0, certificate), INDEX);
        }
    }

    private static void refuses(String what, Supplier<HostKeyring> book, WrittenCall call, String due) {
        refused(what, book.get(), Portrait.of(book.get()), call, due);
    }

    private static void refused(String what, HostKeyring x, String untouched, WrittenCall call, String due) {
        CHECKS.same(what, Checks.outcome(() -> call.on(x)), due);
        CHECKS.same("the book after " + what, Portrait.of(x), untouched);
    }
}
