/**
 * The boundaries that the document names for turning keys, passing days and cleaning the book (promises 11
 * to 13): each sentence has a test of its own, with values on both sides. What is refused, and with which
 * exception, is in RefusalsTest.
 */
public final class BookLimitsTest {
    private static final Checks CHECKS = new Checks("BookLimitsTest");
    private static final int NONE = HostKeyring.NONE;
    private static final int PLAIN = HostKeyring.PLAIN;
    private static final int REVOKED_MARK = HostKeyring.REVOKED_MARK;
    private static final int AUTHORITY = HostKeyring.AUTHORITY;

    public static void main(String[] args) {
        turnEndsTheOldLineInAsManyDays();
        turnLeavesAnEarlierEnd();
        turnAddsAsLongAsThereAreFewerThanForty();
        turnAddsByRisingNumbers();
        turnTakesOnlyPlainLinesThatMatchAndHaveTheOldKey();
        turnTakesLinesUntilTheDayOfTheirEnd();
        turnAddsALineThatIsLikeTheOldOne();
        turnAddsALineSeenToday();
        turnRefusesAnOldKeyThatIsNotTrusted();
        turnRefusesANewKeyThatIsRevoked();
        turnAsksWithoutACertificate();
        turnRefusesTheSameKey();
        passGoesToTheLastDay();
        cleanTakesLinesSeenAsManyDaysAgo();
        cleanTakesLinesFromTheDayOfTheirEnd();
        cleanTakesPlainLinesOnly();
        cleanTakesNoneSomeOrAllOfForty();
        CHECKS.finish();
    }

    private static void add(HostKeyring x, int mark, int key) {
        x.addHashed(mark, key, 5, 0, 0);
    }

    /** A plain line with key 6 for name 5 at port 0. */
    private static HostKeyring knowing() {
        HostKeyring x = new HostKeyring();
        add(x, PLAIN, 6);
        return x;
    }

    /** "the old one ends in as many days as are told then"; "days: 0 to 1000" */
    private static void turnEndsTheOldLineInAsManyDays() {
        for (int day : new int[] {0, 1, 4000, 5000}) {
            for (int days : new int[] {0, 1, 999, 1000}) {
                HostKeyring x = knowing();
                Books.passTo(x, day);
                CHECKS.same("lines added", x.turn(5, 0, 6, 7, days), 1);
                CHECKS.same("the end, day " + day + ", days " + days, x.end(0), day + days);
                CHECKS.same("the new line's end", x.end(1), NONE);
                CHECKS.same("the old key", x.judge(5, 0, 6, NONE),
                        days == 0 ? HostKeyring.OTHER : HostKeyring.TRUSTED);
                CHECKS.same("the new key", x.judge(5, 0, 7, NONE), HostKeyring.TRUSTED);
            }
        }
    }

    /** "unless it ends earlier": earlier, on the same day, later */
    private static void turnLeavesAnEarlierEnd() {
        for (int days : new int[] {0, 19, 20, 21, 1000}) {
            HostKeyring x = knowing();
            x.turn(5, 0, 6, 7, 30);
            x.pass(10);
            CHECKS.same("lines added", x.turn(5, 0, 6, 8, days), 1);
            CHECKS.same("an end on day 30 or in " + days + " days", x.end(0), Math.min(30, 10 + days));
            CHECKS.same("the first new line's end", x.end(1), NONE);
            CHECKS.same("the second new line's end", x.end(2), NONE);
        }
    }

    /** "as far as there are fewer than 40 lines"; "(An old one for which no line is added stays as it is.)" */
    private static void turnAddsAsLongAsThereAreFewerThanForty() {
        for (int room = 0; room <= 4; room++) {
            HostKeyring x = new HostKeyring();
            Books.fillTo(x, 37 - room);
            for (int i = 0; i < 3; i++) {
                add(x, PLAIN, 160);
            }
            CHECKS.same("lines added with room for " + room, x.turn(5, 0, 160, 161, 9), Math.min(room, 3));
            CHECKS.same("lines", x.lines(), 40 - room + Math.min(room, 3));
            for (int i = 0; i < 3; i++) {
                CHECKS.same("end of old line " + i + " with room for " + room, x.end(37 - room + i), i < room ? 9 : NONE);
                CHECKS.same("key of old line " + i, x.keyOf(37 - room + i), 160);
            }
            CHECKS.same("the new key", x.judge(5, 0, 161, NONE), room == 0 ? HostKeyring.OTHER : HostKeyring.TRUSTED);
        }
        HostKeyring x = new HostKeyring();
        for (int i = 0; i < 20; i++) {
            add(x, PLAIN, 160);
        }
        CHECKS.same("half a book", x.turn(5, 0, 160, 161, 9), 20);
        CHECKS.same("is a full book then", x.lines(), 40);
        CHECKS.same("no line more", x.turn(5, 0, 160, 162, 1), 0);
        for (int line = 0; line < 40; line++) {
            CHECKS.same("end of line " + line, x.end(line), line < 20 ? 9 : NONE);
        }
    }

    /** "by rising numbers" */
    private static void turnAddsByRisingNumbers() {
        HostKeyring x = new HostKeyring();
        for (int line = 0; line < 3; line++) {
            x.addLine(PLAIN, 6);
            x.addPattern(line, 5, 15, 0, false);
            x.addPattern(line, 100 + line, 15, 0, false);
        }
        CHECKS.same("lines added", x.turn(5, 0, 6, 7, 1), 3);
        for (int line = 0; line < 3; line++) {
            CHECKS.yes("new line " + line, x.matches(3 + line, 100 + line, 0));
            CHECKS.no("not the next one", x.matches(3 + line, 101 + line, 0));
        }
    }

    /** "for each PLAIN line that has not ended, matches and has the old key" */
    private static void turnTakesOnlyPlainLinesThatMatchAndHaveTheOldKey() {
        HostKeyring x = knowing();
        add(x, AUTHORITY, 6);
        x.addHashed(REVOKED_MARK, 6, 6, 0, 0);
        add(x, PLAIN, 5);
        add(x, PLAIN, 7);
        add(x, PLAIN, 9);
        x.addHashed(PLAIN, 6, 4, 0, 0);
        x.addHashed(PLAIN, 6, 5, 1, 0);
        x.addLine(PLAIN, 6);
        int denied = x.addLine(PLAIN, 6);
        x.addPattern(denied, 0, 0, 0, false);
        x.addPattern(denied, 5, 15, 0, true);
        CHECKS.same("lines added", x.turn(5, 0, 6, 7, 1), 1);
        CHECKS.same("line 0 ends", x.end(0), 1);
        for (int line = 1; line <= denied; line++) {
            CHECKS.same("line " + line + " does not", x.end(line), NONE);
        }
        CHECKS.same("lines with the new key", x.linesOf(7), 1L << 4 | 1L << 10);
    }

    /** "that has not ended": a line that ends on day 3, beside one that does not */
    private static void turnTakesLinesUntilTheDayOfTheirEnd() {
        for (int day = 2; day <= 4; day++) {
            HostKeyring x = knowing();
            x.turn(5, 0, 6, 7, 3);
            add(x, PLAIN, 6);
            x.pass(day);
            CHECKS.same("lines added on day " + day, x.turn(5, 0, 6, 8, 0), day < 3 ? 2 : 1);
            CHECKS.same("the end of the line that ends", x.end(0), Math.min(day, 3));
            CHECKS.same("the end of the other", x.end(2), day);
        }
    }

    /** "a line is added that is like it, but has the new key": patterns from none denied to all four, or hashed */
    private static void turnAddsALineThatIsLikeTheOldOne() {
        for (int patterns = 1; patterns <= 4; patterns++) {
            HostKeyring x = new HostKeyring();
            x.addLine(PLAIN, 199);
            for (int i = 0; i < patterns; i++) {
                x.addPattern(0, 5000 + 100 * i, i == 0 ? 1 : 3, 2, i > 0);
            }
            x.turn(5000, 2, 199, 0, 1);
            CHECKS.same("the new key", x.keyOf(1), 0);
            for (int i = 1; i <= 4; i++) {
                CHECKS.same("5" + i + "00 of " + patterns + " patterns",
                        x.matches(1, 5000 + 100 * i, 2) ? 1 : 0, i < patterns ? 0 : 1);
            }
            CHECKS.no("another port", x.matches(1, 5000, 1));
            CHECKS.same("a pattern more", Checks.outcome(() -> x.addPattern(1, 1, 15, 2, false)),
                    patterns == 4 ? "IllegalStateException" : Integer.toString(patterns + 1));
            CHECKS.no("it is the new line's alone", x.matches(0, 1, 2));
        }
        for (int port = 0; port <= 3; port++) {
            HostKeyring x = new HostKeyring();
            x.addHashed(PLAIN, 6, 5, port, 99);
            x.turn(5, port, 6, 199, 0);
            CHECKS.yes("the name", x.matches(1, 5, port));
            CHECKS.yes("a name of the same hash", x.matches(1, 504, port));
            CHECKS.no("another name", x.matches(1, 503, port));
            CHECKS.no("another port", x.matches(1, 5, (port + 1) % 4));
            CHECKS.notNow("a pattern of a hashed line", () -> x.addPattern(1, 5, 15, 0, false));
        }
    }

    /** "was seen today and has no end" */
    private static void turnAddsALineSeenToday() {
        for (int day : new int[] {1, 4999, 5000}) {
            HostKeyring x = knowing();
            Books.passTo(x, day);
            x.turn(5, 0, 6, 7, 0);
            CHECKS.same("the new line", x.seen(1), day);
            CHECKS.same("its end", x.end(1), NONE);
            CHECKS.same("the old line", x.seen(0), 0);
        }
    }

    /** "IllegalStateException if the old key is not TRUSTED (without a certificate)": every other judgement */
    private static void turnRefusesAnOldKeyThatIsNotTrusted() {
        HostKeyring x = knowing();
        add(x, PLAIN, 8);
        add(x, AUTHORITY, 60);
        x.certify(60, 20, 5, 15, 0, 0, 5000);
        CHECKS.same("a certified key", x.judge(5, 0, 20, 0), HostKeyring.CERTIFIED);
        CHECKS.notNow("a key that is certified, without the certificate", () -> x.turn(5, 0, 20, 7, 1));
        CHECKS.notNow("a changed key", () -> x.turn(5, 0, 9, 7, 1));
        CHECKS.notNow("another key", () -> x.turn(5, 0, 10, 7, 1));
        CHECKS.notNow("a new key", () -> x.turn(6, 0, 6, 7, 1));
        CHECKS.notNow("a new key at another port", () -> x.turn(5, 1, 6, 7, 1));
        CHECKS.notNow("an authority's key", () -> x.turn(5, 0, 60, 7, 1));
        CHECKS.same("lines", x.lines(), 3);
        CHECKS.same("a trusted key", x.turn(5, 0, 6, 7, 1), 1);
        add(x, REVOKED_MARK, 8);
        CHECKS.notNow("a trusted key that was revoked", () -> x.turn(5, 0, 8, 11, 1));
        x.pass(1);
        CHECKS.notNow("a key on the day of its line's end", () -> x.turn(5, 0, 6, 12, 1));
        CHECKS.same("lines then", x.lines(), 5);
    }

    /** "or the new one is REVOKED": with every other judgement it may be turned to */
    private static void turnRefusesANewKeyThatIsRevoked() {
        int[] others = {9, 7, 10, 0, 199, 60};
        for (int other : others) {
            HostKeyring x = knowing();
            add(x, PLAIN, 10);
            add(x, AUTHORITY, 60);
            x.addHashed(REVOKED_MARK, other, 4, 0, 0);
            x.addHashed(REVOKED_MARK, other, 5, 1, 0);
            CHECKS.same("a key revoked for others, " + other, x.turn(5, 0, 6, other, 1), 1);
            add(x, REVOKED_MARK, other);
            CHECKS.notNow("a key revoked, " + other, () -> x.turn(5, 0, 6, other, 0));
            CHECKS.same("the end stays", x.end(0), 1);
            CHECKS.same("lines", x.lines(), 7);
        }
    }

    /** "(without a certificate)": a revoked key of others, the first or the last, revokes neither key */
    private static void turnAsksWithoutACertificate() {
        for (int revoked : new int[] {0, 199}) {
            HostKeyring x = knowing();
            add(x, REVOKED_MARK, revoked);
            CHECKS.same("with " + revoked + " revoked", x.turn(5, 0, 6, 7, 1), 1);
            CHECKS.notNow("to the revoked key " + revoked, () -> x.turn(5, 0, 6, revoked, 1));
            CHECKS.same("lines", x.lines(), 3);
        }
    }

    /** "or both keys are the same": the keys beside it are not */
    private static void turnRefusesTheSameKey() {
        HostKeyring x = knowing();
        CHECKS.outOfRange("the same key", () -> x.turn(5, 0, 6, 6, 1));
        CHECKS.same("no line", x.lines(), 1);
        CHECKS.same("the key before it", x.turn(5, 0, 6, 5, 1), 1);
        CHECKS.same("the key after it", x.turn(5, 0, 6, 7, 1), 1);
    }

    /** Promise 12: "1 to 1000", "Returns the day then.", "if it would be above 5000" */
    private static void passGoesToTheLastDay() {
        for (int days : new int[] {1, 999, 1000}) {
            HostKeyring x = new HostKeyring();
            CHECKS.same("days", x.pass(days), days);
            CHECKS.same("the day", x.day(), days);
            Books.passTo(x, 5000 - days);
            CHECKS.same("to the last day", x.pass(days), 5000);
            HostKeyring y = new HostKeyring();
            Books.passTo(y, 5001 - days);
            CHECKS.notNow("a day too far", () -> y.pass(days));
            CHECKS.same("the day stays", y.day(), 5001 - days);
        }
        HostKeyring x = new HostKeyring();
        Books.passTo(x, 5000);
        CHECKS.notNow("a day on the last", () -> x.pass(1));
        CHECKS.notNow("1000 days on the last", () -> x.pass(1000));
        CHECKS.outOfRange("1001 days on the last", () -> x.pass(1001));
        CHECKS.outOfRange("as many days as there are", () -> x.pass(Integer.MAX_VALUE));
        CHECKS.outOfRange("no day", () -> x.pass(0));
        CHECKS.same("the last day", x.day(), 5000);
    }

    /** "or were seen as many days ago as are told, or more"; "days: 1 to 5000" */
    private static void cleanTakesLinesSeenAsManyDaysAgo() {
        for (int days : new int[] {1, 2, 40, 4999, 5000}) {
            for (int ago = Math.max(0, days - 1); ago <= Math.min(days + 1, 5000); ago++) {
                HostKeyring x = new HostKeyring();
                Books.passTo(x, 5000 - ago);
                add(x, PLAIN, 6);
                x.addLine(PLAIN, 7);
                Books.passTo(x, 5000);
                String told = "seen " + ago + " days ago, cleaned by " + days;
                CHECKS.same(told, x.clean(days), ago >= days ? 2 : 0);
                CHECKS.same("lines, " + told, x.lines(), ago >= days ? 0 : 2);
            }
        }
        HostKeyring x = knowing();
        x.pass(10);
        x.answer(5, 0, 6, NONE);
        x.pass(10);
        CHECKS.same("seen again 10 days ago, cleaned by 11", x.clean(11), 0);
        CHECKS.same("seen again 10 days ago, cleaned by 10", x.clean(10), 1);
    }

    /** "all PLAIN lines that have ended" */
    private static void cleanTakesLinesFromTheDayOfTheirEnd() {
        for (int day = 0; day <= 4; day++) {
            HostKeyring x = knowing();
            x.turn(5, 0, 6, 7, 3);
            add(x, PLAIN, 8);
            for (int passed = 0; passed < day; passed++) {
                x.pass(1);
            }
            CHECKS.same("an end on day 3, cleaned on day " + day, x.clean(5000), day < 3 ? 0 : 1);
            CHECKS.same("the first line then", x.keyOf(0), day < 3 ? 6 : 7);
            CHECKS.same("the last line then", x.keyOf(x.lines() - 1), 8);
        }
        HostKeyring x = knowing();
        x.turn(5, 0, 6, 7, 0);
        CHECKS.same("an end on day 0, cleaned on day 0", x.clean(5000), 1);
        CHECKS.same("the new line stays", x.keyOf(0), 7);
    }

    /** "takes out all PLAIN lines": the others stay, and get new numbers in their order */
    private static void cleanTakesPlainLinesOnly() {
        HostKeyring x = new HostKeyring();
        for (int line = 0; line < 40; line++) {
            x.addLine(line % 3, line);
        }
        Books.passTo(x, 5000);
        CHECKS.same("plain lines", x.clean(1), 14);
        CHECKS.same("lines left", x.lines(), 26);
        for (int line = 0; line < 26; line++) {
            CHECKS.same("line " + line, x.keyOf(line), 1000 * (line % 2 + 1) + line / 2 * 3 + line % 2 + 1);
        }
        CHECKS.same("none the second time", x.clean(1), 0);
    }

    private static void cleanTakesNoneSomeOrAllOfForty() {
        CHECKS.same("an empty book", new HostKeyring().clean(1), 0);
        for (int old : new int[] {0, 1, 20, 39, 40}) {
            HostKeyring x = new HostKeyring();
            for (int line = 0; line < old; line++) {
                x.addLine(PLAIN, line);
            }
            x.pass(1);
            for (int line = old; line < 40; line++) {
                x.addLine(PLAIN, line);
            }
            CHECKS.same("old lines", x.clean(1), old);
            CHECKS.same("lines left", x.lines(), 40 - old);
            for (int line = 0; line < 40 - old; line++) {
                CHECKS.same("line " + line, x.keyOf(line), old + line);
            }
            Books.fill(x);
            CHECKS.same("as many can be added", x.lines(), 40);
            CHECKS.notNow("no line more", () -> x.addLine(PLAIN, 0));
        }
    }
}
