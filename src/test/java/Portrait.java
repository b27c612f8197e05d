/**
 * What a book answers to a fixed row of calls: two books with the same portrait are held to be alike.
 * First it is asked all that it can be asked; then come calls that bring to light what no question
 * tells. That uses the book up.
 */
final class Portrait {
    /** So that a book made by at most 150 calls stays within its 512. */
    private static final int MOST_CALLS = 360;

    private final HostKeyring x;
    private final StringBuilder told = new StringBuilder();
    private int calls;

    private Portrait(HostKeyring x) {
        this.x = x;
    }

    static String of(HostKeyring x) {
        Portrait portrait = new Portrait(x);
        portrait.askOfTheBook();
        portrait.askOfEachLine();
        portrait.askOfCertificates();
        portrait.bringToLightWhatIsFull();
        portrait.bringToLightWhatWaits();
        portrait.bringToLightTheRule();
        return portrait.told.toString();
    }

    private void tell(String what, Checks.Call call) {
        calls++;
        if (calls > MOST_CALLS) {
            throw new AssertionError("a portrait of more than " + MOST_CALLS + " calls");
        }
        told.append(what).append(' ').append(Checks.outcome(call)).append('\n');
    }

    private void tellMatches(int line, int name, int port) {
        tell("line " + line + " matches " + name + " at " + port, () -> x.matches(line, name, port) ? 1 : 0);
    }

    private void askOfTheBook() {
        tell("day", x::day);
        tell("lines", x::lines);
        tell("waiting", x::waiting);
        for (int key : new int[] {0, 6, 7, 199}) {
            tell("lines of " + key, () -> x.linesOf(key));
            tell("judgement of " + key, () -> x.judgeByReading(5, 0, key));
        }
        for (int port = 0; port <= 3; port++) {
            int asked = port;
            tell("find 5 at " + port, () -> x.find(5, asked));
            tell("find 9999 at " + port, () -> x.find(9999, asked));
        }
    }

    private void askOfEachLine() {
        int lines = x.lines();
        for (int i = 0; i < lines; i++) {
            int line = i;
            tell("key of " + line, () -> x.keyOf(line));
            tell("seen " + line, () -> x.seen(line));
            tell("end " + line, () -> x.end(line));
            tellMatches(line, 5, 0);
            tellMatches(line, 5, 3);
        }
    }

    private void askOfCertificates() {
        for (int i = 0; i < 20; i++) {
            int number = i;
            tell("certificate " + number, () -> x.judge(5, 0, 70 + number, number));
        }
    }

    private void bringToLightWhatIsFull() {
        for (int i = 0; i <= 6; i++) {
            int line = i;
            tell("a pattern more of " + line, () -> x.addPattern(line, 9000 + line, 15, 1, true));
        }
        tell("a certificate more", () -> x.certify(60, 0, 0, 0, 28, 0, 5000));
        tell("a span more", () -> x.revokeSpan(60, 10, 19));
        tell("a line more", () -> x.addLine(HostKeyring.PLAIN, 1));
    }

    private void bringToLightWhatWaits() {
        for (int i = 0; i < 3; i++) {
            tell("room", () -> x.remove(x.lines() - 1));
        }
        tell("confirm", x::confirm);
        tellLast(Books.WAITING_NAME, Books.WAITING_PORT);
    }

    private void bringToLightTheRule() {
        tell("a first sight", () -> x.answer(8888, 3, 151, HostKeyring.NONE));
        tell("waiting then", x::waiting);
        tell("confirm then", x::confirm);
        tellLast(8888, 3);
        tell("the rule before", () -> x.setFirstSight(HostKeyring.ASK, false));
        tell("another day", () -> x.pass(1));
    }

    /** A hashed line matches also the name 499 further, and takes no pattern. */
    private void tellLast(int name, int port) {
        int last = x.lines() - 1;
        tell("key of the last", () -> x.keyOf(last));
        tellMatches(last, name, port);
        tellMatches(last, name + 499, port);
        tell("a pattern more of the last", () -> x.addPattern(last, 1, 15, 1, false));
    }
}
