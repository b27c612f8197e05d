/**
 * The boundaries that the document names for names, patterns and lines (its Terms, promises 1 to 5 and
 * 16 to 23): each sentence has a test of its own, with values on both sides. What is refused, and with
 * which exception, is in RefusalsTest.
 */
public final class LineLimitsTest {
    private static final Checks CHECKS = new Checks("LineLimitsTest");
    private static final int NONE = HostKeyring.NONE;
    private static final int PLAIN = HostKeyring.PLAIN;
    private static final int[] MARKS = {PLAIN, HostKeyring.REVOKED_MARK, HostKeyring.AUTHORITY};

    public static void main(String[] args) {
        aNameHasFourDigits();
        thePlacesAreFromTheLeft();
        aPatternFitsItsPortOnly();
        aPatternWithoutPlacesFitsEveryName();
        aPatternWithAllPlacesFitsOneName();
        oneThatIsNotDeniedFitsAndNoneThatIs();
        atFirstThereIsNoPattern();
        thereAreAtMostFourPatterns();
        hashesAreModulo499();
        aHashedLineMatchesAtItsPort();
        thereAreAtMostFortyLines();
        thereAreAtMostFortyHashedLines();
        linesBehindOneTakenOutGetNumbersOneLess();
        theOnlyLineIsTakenOut();
        aNewObjectIsEmptyOnDayZero();
        aNewObjectAsksAndDoesNotHash();
        objectsAreApart();
        aLineWasSeenOnTheDayItWasAdded();
        anEndOnDayZeroIsNotNone();
        keyOfPutsMarkAndKeyTogether();
        findTellsTheFirstOfAnyMark();
        findTellsLinesThatHaveEnded();
        matchesEndedOrNot();
        linesOfIsASetOfFortyBits();
        linesCountsFromNoneToForty();
        all512CallsAreAnswered();
        CHECKS.finish();
    }

    private static HostKeyring withPattern(int name, int places, int port) {
        HostKeyring x = new HostKeyring();
        x.addLine(PLAIN, 1);
        x.addPattern(0, name, places, port, false);
        return x;
    }

    private static void matchesAre(HostKeyring x, int port, int[] matched, int[] others) {
        for (int name : matched) {
            CHECKS.yes("line 0 matches " + name, x.matches(0, name, port));
        }
        for (int name : others) {
            CHECKS.no("line 0 matches " + name, x.matches(0, name, port));
        }
    }

    /** "A name is a number of four digits, 0 to 9999 (0 being 0000)." */
    private static void aNameHasFourDigits() {
        matchesAre(withPattern(0, 1, 0), 0, new int[] {0, 1, 999}, new int[] {1000, 9999});
        matchesAre(withPattern(7, 3, 0), 0, new int[] {0, 7, 99}, new int[] {100, 700, 7000});
        matchesAre(withPattern(9999, 1, 0), 0, new int[] {9000, 9999}, new int[] {8999, 999, 0});
        matchesAre(withPattern(0, 15, 0), 0, new int[] {0}, new int[] {1, 10, 100, 1000, 9999});
        matchesAre(withPattern(9999, 15, 0), 0, new int[] {9999}, new int[] {9998, 9989, 9899, 8999, 0});
    }

    /** "the places of its digits are 0 to 3 from the left", "each counts 2 to the power of its number" */
    private static void thePlacesAreFromTheLeft() {
        int[] below = {4555, 5455, 5545, 5554};
        int[] above = {6555, 5655, 5565, 5556};
        for (int place = 0; place <= 3; place++) {
            HostKeyring only = withPattern(5555, 1 << place, 0);
            HostKeyring allOthers = withPattern(5555, 15 - (1 << place), 0);
            for (int changed = 0; changed <= 3; changed++) {
                int[] names = {below[changed], above[changed]};
                int[] none = {};
                matchesAre(only, 0, changed == place ? none : names, changed == place ? names : none);
                matchesAre(allOthers, 0, changed == place ? names : none, changed == place ? none : names);
            }
        }
    }

    /** "It fits a name and a port, if the port is the same", "There are the ports 0 to 3." */
    private static void aPatternFitsItsPortOnly() {
        for (int port = 0; port <= 3; port++) {
            HostKeyring x = withPattern(5, 0, port);
            for (int asked = 0; asked <= 3; asked++) {
                CHECKS.same("port " + port + " asked at " + asked, x.find(5, asked), asked == port ? 0 : NONE);
            }
        }
    }

    /** "the digits of both names are the same at all places of the set": a set of none */
    private static void aPatternWithoutPlacesFitsEveryName() {
        int[] names = {0, 1, 9, 10, 1234, 4999, 5000, 9998, 9999};
        matchesAre(withPattern(5000, 0, 3), 3, names, new int[0]);
    }

    /** "the digits of both names are the same at all places of the set": a set of all */
    private static void aPatternWithAllPlacesFitsOneName() {
        for (int name : new int[] {1, 4999, 5000, 9998}) {
            matchesAre(withPattern(name, 15, 3), 3, new int[] {name},
                    new int[] {name - 1, name + 1, 9999 - name, name == 1 ? 1000 : name / 10});
        }
    }

    /** "it matches a name and a port, if one that is not denied fits, and none that is denied does" */
    private static void oneThatIsNotDeniedFitsAndNoneThatIs() {
        for (int denied = 0; denied < 16; denied++) {
            HostKeyring x = new HostKeyring();
            x.addLine(PLAIN, 1);
            for (int i = 0; i < 4; i++) {
                boolean isDenied = (denied >> i & 1) == 1;
                CHECKS.same("patterns", x.addPattern(0, 5000 + i, 1, 1, isDenied), i + 1);
                int among = denied & ((2 << i) - 1);
                CHECKS.same("denied " + among + " of " + (i + 1) + " that fit",
                        x.matches(0, 5999, 1) ? 1 : 0, among == 0 ? 1 : 0);
            }
            CHECKS.no("none fits the name, denied " + denied, x.matches(0, 4999, 1));
            CHECKS.no("none fits the port, denied " + denied, x.matches(0, 5999, 2));
        }
        HostKeyring x = withPattern(5000, 1, 1);
        x.addPattern(0, 5900, 3, 1, true);
        x.addPattern(0, 5000, 1, 2, true);
        matchesAre(x, 1, new int[] {5000, 5899}, new int[] {5900, 5999, 4999, 6000});
        matchesAre(x, 2, new int[0], new int[] {5000, 5899, 5900});
    }

    /** "with patterns, at most 4, at first none" and promise 2: "Adds a line without patterns." */
    private static void atFirstThereIsNoPattern() {
        for (int mark : MARKS) {
            HostKeyring x = new HostKeyring();
            x.addLine(mark, 0);
            for (int port = 0; port <= 3; port++) {
                matchesAre(x, port, new int[0], new int[] {0, 9999});
            }
            CHECKS.same("the first pattern", x.addPattern(0, 0, 0, 0, false), 1);
            matchesAre(x, 0, new int[] {0, 9999}, new int[0]);
        }
    }

    /** "with patterns, at most 4"; promise 3: "or has 4 patterns" */
    private static void thereAreAtMostFourPatterns() {
        HostKeyring x = new HostKeyring();
        for (int line = 0; line < 40; line++) {
            x.addLine(line % 3, line);
        }
        for (int line : new int[] {0, 39}) {
            for (int count = 1; count <= 4; count++) {
                CHECKS.same("pattern " + count + " of line " + line, x.addPattern(line, count, 15, 1, false), count);
                CHECKS.yes("it fits", x.matches(line, count, 1));
            }
            CHECKS.notNow("pattern 5 of line " + line, () -> x.addPattern(line, 5, 15, 1, false));
            CHECKS.no("it is not there", x.matches(line, 5, 1));
            CHECKS.yes("the first is still there", x.matches(line, 1, 1));
            CHECKS.yes("the fourth is still there", x.matches(line, 4, 1));
        }
        CHECKS.same("a line between them has none", x.addPattern(20, 1, 15, 1, false), 1);
    }

    /** "The hash of a name with a salt is (31 * name + 17 * salt + 5) modulo 499." */
    private static void hashesAreModulo499() {
        for (int salt : new int[] {0, 1, 50, 98, 99}) {
            hashedMatchesAre(0, salt, new int[] {0, 499, 998, 9980}, new int[] {1, 498, 500, 9979, 9981, 9999});
            hashedMatchesAre(498, salt, new int[] {498, 997, 9979}, new int[] {497, 499, 0, 996, 998});
            hashedMatchesAre(9999, salt, new int[] {9999, 19, 518, 9500}, new int[] {18, 20, 9499, 9501, 9998, 0});
        }
    }

    private static void hashedMatchesAre(int name, int salt, int[] ofTheSameHash, int[] others) {
        HostKeyring x = new HostKeyring();
        x.addHashed(PLAIN, 0, name, 0, salt);
        matchesAre(x, 0, ofTheSameHash, others);
    }

    /** "it matches a name and a port, if the port is the same, and the hash of the name with its salt is its hash" */
    private static void aHashedLineMatchesAtItsPort() {
        for (int port = 0; port <= 3; port++) {
            HostKeyring x = new HostKeyring();
            x.addHashed(PLAIN, 0, 5, port, 0);
            for (int asked = 0; asked <= 3; asked++) {
                CHECKS.same("port " + port + " asked at " + asked, x.find(5, asked), asked == port ? 0 : NONE);
                CHECKS.same("another hash asked at " + asked, x.find(6, asked), NONE);
            }
        }
    }

    /** "There are at most 40 lines, numbered from 0 in the order in which they were added" */
    private static void thereAreAtMostFortyLines() {
        HostKeyring x = new HostKeyring();
        for (int number = 0; number < 40; number++) {
            CHECKS.same("line", x.addLine(number % 3, number + 100), number);
        }
        CHECKS.notNow("a 41st line", () -> x.addLine(PLAIN, 0));
        for (int number = 0; number < 40; number++) {
            CHECKS.same("line " + number, x.keyOf(number), 1000 * (number % 3) + number + 100);
        }
        x.remove(39);
        CHECKS.same("a 40th line", x.addLine(PLAIN, 7), 39);
        CHECKS.notNow("a 41st line then", () -> x.addLine(PLAIN, 0));
        CHECKS.same("the 40th", x.keyOf(39), 7);
    }

    /** The same for addHashed, and for both together. */
    private static void thereAreAtMostFortyHashedLines() {
        HostKeyring x = new HostKeyring();
        for (int number = 0; number < 40; number++) {
            CHECKS.same("hashed line", x.addHashed(number % 3, number + 100, number, 1, 99), number);
        }
        CHECKS.notNow("a 41st hashed line", () -> x.addHashed(PLAIN, 0, 0, 0, 0));
        CHECKS.notNow("a 41st line that is not hashed", () -> x.addLine(PLAIN, 0));
        for (int number = 0; number < 40; number++) {
            CHECKS.same("hashed line " + number, x.find(number, 1), number);
        }
        x.remove(0);
        CHECKS.same("a 40th line", x.addLine(PLAIN, 7), 39);
        CHECKS.notNow("a 41st hashed line then", () -> x.addHashed(PLAIN, 0, 0, 0, 0));
    }

    /** "when one is taken out, those behind it get numbers that are 1 less" */
    private static void linesBehindOneTakenOutGetNumbersOneLess() {
        for (int taken : new int[] {0, 1, 20, 38, 39}) {
            HostKeyring x = new HostKeyring();
            for (int number = 0; number < 40; number++) {
                x.addHashed(number % 3, number, number, 2, number);
            }
            CHECKS.same("the key of line " + taken, x.remove(taken), taken);
            CHECKS.same("lines left", x.lines(), 39);
            for (int number = 0; number < 39; number++) {
                int was = number < taken ? number : number + 1;
                CHECKS.same("line " + number, x.keyOf(number), 1000 * (was % 3) + was);
                CHECKS.same("the name of line " + number, x.find(was, 2), number);
            }
            CHECKS.same("the name that was taken out", x.find(taken, 2), NONE);
            CHECKS.noSuch("line 39", () -> x.keyOf(39));
        }
    }

    private static void theOnlyLineIsTakenOut() {
        HostKeyring x = new HostKeyring();
        for (int mark : MARKS) {
            x.addLine(mark, 199);
            CHECKS.same("the only line's key", x.remove(0), 199);
            CHECKS.same("no line is left", x.lines(), 0);
            CHECKS.noSuch("line 0", () -> x.remove(0));
        }
    }

    /** Promise 1: "Day 0, an empty book" */
    private static void aNewObjectIsEmptyOnDayZero() {
        HostKeyring x = new HostKeyring();
        CHECKS.same("the day", x.day(), 0);
        CHECKS.same("lines", x.lines(), 0);
        CHECKS.same("what waits", x.waiting(), NONE);
        CHECKS.same("lines of key 0", x.linesOf(0), 0);
        CHECKS.same("the line of 0 at 0", x.find(0, 0), NONE);
        CHECKS.same("the judgement of key 0", x.judge(0, 0, 0, NONE), HostKeyring.NEW);
        CHECKS.same("the judgement by reading", x.judgeByReading(0, 0, 0), HostKeyring.NEW);
        CHECKS.same("lines taken out", x.clean(1), 0);
        CHECKS.same("certificates revoked", x.revokeSpan(0, 0, 999), 0);
        CHECKS.notNow("a key to confirm", () -> x.confirm());
        CHECKS.same("the first certificate", x.certify(0, 0, 0, 0, 0, 0, 0), 0);
        CHECKS.same("the first line", x.addLine(PLAIN, 0), 0);
    }

    /** Promise 1: "first sights are asked about, and new lines are not hashed" */
    private static void aNewObjectAsksAndDoesNotHash() {
        CHECKS.same("the rule", new HostKeyring().setFirstSight(HostKeyring.ASK, false), HostKeyring.ASK);
        HostKeyring x = new HostKeyring();
        x.answer(5, 1, 9, NONE);
        CHECKS.same("no line yet", x.lines(), 0);
        CHECKS.same("it waits", x.waiting(), 9);
        x.confirm();
        matchesAre(x, 1, new int[] {5}, new int[] {504});
    }

    private static void objectsAreApart() {
        HostKeyring x = new HostKeyring();
        HostKeyring usual = Books.usual();
        CHECKS.same("a book beside another has no lines", x.lines(), 0);
        CHECKS.same("and its own day", x.day(), 0);
        CHECKS.same("and nothing waits", x.waiting(), NONE);
        CHECKS.noSuch("and it has no certificates", () -> x.judge(0, 0, 0, 0));
        Books.fill(x);
        x.pass(9);
        x.setFirstSight(HostKeyring.ACCEPT, false);
        CHECKS.same("the other", Portrait.of(usual), Portrait.of(Books.usual()));
    }

    /** "a day on which it was seen, that on which it was added at first": the first day and the last */
    private static void aLineWasSeenOnTheDayItWasAdded() {
        HostKeyring x = new HostKeyring();
        for (int day : new int[] {0, 1, 4999, 5000}) {
            Books.passTo(x, day);
            CHECKS.same("seen of a line", x.seen(x.addLine(PLAIN, 1)), day);
            CHECKS.same("seen of a hashed line", x.seen(x.addHashed(PLAIN, 1, 1, 1, 1)), day);
            CHECKS.same("seen of line 0", x.seen(0), 0);
        }
    }

    /** Promise 20: "Returns the day; NONE if it has none." */
    private static void anEndOnDayZeroIsNotNone() {
        HostKeyring x = new HostKeyring();
        x.addHashed(PLAIN, 6, 5, 0, 1);
        CHECKS.same("no end", x.end(0), NONE);
        x.turn(5, 0, 6, 7, 0);
        CHECKS.same("an end on day 0", x.end(0), 0);
        CHECKS.same("the new line's end", x.end(1), NONE);
        Books.passTo(x, 4000);
        x.turn(5, 0, 7, 8, 1000);
        CHECKS.same("an end on day 5000", x.end(1), 5000);
    }

    /** Promise 18: "Returns 1000 times its mark, and the key, together." */
    private static void keyOfPutsMarkAndKeyTogether() {
        HostKeyring x = new HostKeyring();
        for (int mark : MARKS) {
            for (int key : new int[] {0, 1, 198, 199}) {
                CHECKS.same("key " + key + ", mark " + mark, x.keyOf(x.addLine(mark, key)), 1000 * mark + key);
                CHECKS.same("hashed", x.keyOf(x.addHashed(mark, key, 0, 0, 0)), 1000 * mark + key);
            }
        }
    }

    /** Promise 22: "Returns the first line, of any mark, ended or not, that matches"; "NONE if there is none" */
    private static void findTellsTheFirstOfAnyMark() {
        for (int mark : MARKS) {
            HostKeyring x = new HostKeyring();
            Books.fillTo(x, 38);
            x.addHashed(mark, 0, 5, 0, 0);
            x.addHashed(PLAIN, 0, 5, 0, 0);
            CHECKS.same("the first of two", x.find(5, 0), 38);
            CHECKS.same("none of this name", x.find(6, 0), NONE);
            CHECKS.same("none at this port", x.find(5, 1), NONE);
            x.addPattern(0, 5, 15, 0, false);
            CHECKS.same("line 0", x.find(5, 0), 0);
            x.remove(0);
            x.remove(37);
            CHECKS.same("the last line", x.find(5, 0), 37);
            x.remove(37);
            CHECKS.same("none that matches", x.find(5, 0), NONE);
        }
    }

    private static void findTellsLinesThatHaveEnded() {
        HostKeyring x = new HostKeyring();
        x.addHashed(PLAIN, 6, 5, 0, 0);
        x.turn(5, 0, 6, 7, 1);
        CHECKS.same("a day ahead of its end", x.find(5, 0), 0);
        x.pass(1);
        CHECKS.same("on the day of its end", x.find(5, 0), 0);
        x.pass(1);
        CHECKS.same("behind its end", x.find(5, 0), 0);
    }

    /** Promise 21: "Returns whether it does, ended or not." */
    private static void matchesEndedOrNot() {
        HostKeyring x = withPattern(5, 15, 0);
        x.turn(5, 0, 1, 7, 1);
        for (int day = 0; day <= 2; day++) {
            matchesAre(x, 0, new int[] {5}, new int[] {4, 6});
            CHECKS.no("at another port", x.matches(0, 5, 1));
            x.pass(1);
        }
    }

    /** Promise 23: "Returns the set: line n counts 2 to the power of n." */
    private static void linesOfIsASetOfFortyBits() {
        HostKeyring x = new HostKeyring();
        for (int number = 0; number < 40; number++) {
            CHECKS.same("lines of key 199", x.linesOf(199), (1L << number) - 1);
            x.addLine(number % 3, 199);
        }
        CHECKS.same("all forty lines", x.linesOf(199), 0xFF_FFFF_FFFFL);
        CHECKS.same("lines of key 198", x.linesOf(198), 0);
        for (int number : new int[] {30, 31, 32, 39}) {
            HostKeyring y = new HostKeyring();
            for (int line = 0; line < 40; line++) {
                y.addLine(PLAIN, line == number ? 0 : 1);
            }
            CHECKS.same("line " + number, y.linesOf(0), 1L << number);
            CHECKS.same("all but line " + number, y.linesOf(1), 0xFF_FFFF_FFFFL - (1L << number));
        }
        HostKeyring z = new HostKeyring();
        z.addHashed(PLAIN, 0, 5, 0, 1);
        z.turn(5, 0, 0, 1, 0);
        CHECKS.same("a line that has ended", z.linesOf(0), 1);
        CHECKS.same("a line that was turned to", z.linesOf(1), 2);
    }

    /** Promise 17 */
    private static void linesCountsFromNoneToForty() {
        HostKeyring x = new HostKeyring();
        for (int lines = 0; lines < 40; lines++) {
            CHECKS.same("lines", x.lines(), lines);
            x.addLine(PLAIN, 0);
        }
        CHECKS.same("a full book's lines", x.lines(), 40);
        CHECKS.notNow("a line more", () -> x.addLine(PLAIN, 0));
        CHECKS.same("lines then", x.lines(), 40);
        x.remove(0);
        CHECKS.same("one less", x.lines(), 39);
    }

    /** "An object is used for at most 512 calls after it has been made" */
    private static void all512CallsAreAnswered() {
        HostKeyring x = new HostKeyring();
        for (int calls = 0; calls < 512; calls += 4) {
            CHECKS.same("line", x.addLine(PLAIN, calls % 200), 0);
            CHECKS.same("pattern", x.addPattern(0, calls, 15, 1, false), 1);
            CHECKS.yes("match", x.matches(0, calls, 1));
            CHECKS.same("key", x.remove(0), calls % 200);
        }
        HostKeyring y = new HostKeyring();
        y.setFirstSight(HostKeyring.ACCEPT, true);
        y.pass(1);
        for (int calls = 2; calls < 512; calls += 3) {
            CHECKS.same("a first sight", y.answer(calls, 1, 7, NONE), HostKeyring.NEW);
            CHECKS.same("seen", y.seen(0), 1);
            CHECKS.same("key", y.remove(0), 7);
        }
    }
}
