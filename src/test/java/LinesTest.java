/** Promises 1 to 5, and what is told of lines: 17 to 23. */
public final class LinesTest {
    private static final Checks CHECKS = new Checks("LinesTest");
    private static final int[] OUTSIDE = {-1, Integer.MIN_VALUE, Integer.MAX_VALUE};

    public static void main(String[] args) {
        newObject();
        addLine();
        addLineRefuses();
        addPattern();
        placesCountFromTheLeft();
        deniedPatterns();
        addPatternRefuses();
        addHashed();
        hashesOfAllNames();
        addHashedRefuses();
        remove();
        removedLinesLeaveNothingBehind();
        linesAreNoMoreThanForty();
        keyOf();
        seen();
        end();
        matchesRefuses();
        find();
        linesOf();
        CHECKS.finish();
    }

    private static void newObject() {
        HostKeyring x = new HostKeyring();
        CHECKS.same("a new object's day", x.day(), 0);
        CHECKS.same("a new object's lines", x.lines(), 0);
        CHECKS.same("a new object's waiting", x.waiting(), HostKeyring.NONE);
        CHECKS.same("a new object's find", x.find(0, 0), HostKeyring.NONE);
        CHECKS.noSuch("a new object's certificate 0", () -> x.judge(0, 0, 0, 0));
        CHECKS.same("first sight in a new object", x.answer(12, 1, 3, HostKeyring.NONE), HostKeyring.NEW);
        CHECKS.same("a first sight is asked about", x.waiting(), 3);
        CHECKS.same("confirm", x.confirm(), 0);
        CHECKS.same("a line not hashed takes a pattern", x.addPattern(0, 1, 0, 0, false), 2);
        CHECKS.same("the rule in a new object", new HostKeyring().setFirstSight(HostKeyring.REFUSE, true), HostKeyring.ASK);
    }

    private static void addLine() {
        HostKeyring x = new HostKeyring();
        CHECKS.same("addLine, first", x.addLine(HostKeyring.PLAIN, 0), 0);
        CHECKS.same("addLine, second", x.addLine(HostKeyring.REVOKED_MARK, 199), 1);
        CHECKS.same("addLine, third", x.addLine(HostKeyring.AUTHORITY, 57), 2);
        CHECKS.same("lines", x.lines(), 3);
        for (int port = 0; port <= 3; port++) {
            CHECKS.no("a line without patterns matches nothing", x.matches(0, 0, port));
        }
        CHECKS.same("a new line has no patterns", x.addPattern(0, 1, 1, 1, false), 1);
    }

    private static void addLineRefuses() {
        HostKeyring x = new HostKeyring();
        CHECKS.outOfRange("mark 3", () -> x.addLine(3, 0));
        CHECKS.outOfRange("key 200", () -> x.addLine(0, 200));
        for (int wrong : OUTSIDE) {
            CHECKS.outOfRange("mark " + wrong, () -> x.addLine(wrong, 0));
            CHECKS.outOfRange("key " + wrong, () -> x.addLine(0, wrong));
        }
        CHECKS.same("refused lines are not added", x.lines(), 0);
    }

    private static void addPattern() {
        HostKeyring x = new HostKeyring();
        x.addLine(HostKeyring.PLAIN, 1);
        x.addLine(HostKeyring.PLAIN, 2);
        CHECKS.same("first pattern", x.addPattern(1, 1234, 15, 2, false), 1);
        CHECKS.same("second pattern", x.addPattern(1, 9999, 15, 3, false), 2);
        CHECKS.same("third pattern", x.addPattern(1, 0, 15, 0, false), 3);
        CHECKS.same("fourth pattern", x.addPattern(1, 42, 15, 1, false), 4);
        CHECKS.same("first pattern of the other line", x.addPattern(0, 0, 0, 0, false), 1);
        CHECKS.yes("the name and port of the first pattern", x.matches(1, 1234, 2));
        CHECKS.no("another port", x.matches(1, 1234, 1));
        CHECKS.no("another name", x.matches(1, 1235, 2));
        CHECKS.yes("the second pattern", x.matches(1, 9999, 3));
        CHECKS.yes("the third pattern", x.matches(1, 0, 0));
        CHECKS.yes("the fourth pattern", x.matches(1, 42, 1));
        CHECKS.yes("no places fit every name", x.matches(0, 7391, 0));
        CHECKS.no("no places fit one port", x.matches(0, 7391, 1));
    }

    private static void placesCountFromTheLeft() {
        int[] otherAtPlace = {8321, 4821, 4381, 4328};
        for (int places = 0; places <= 15; places++) {
            HostKeyring x = new HostKeyring();
            x.addLine(HostKeyring.PLAIN, 1);
            x.addPattern(0, 4321, places, 0, false);
            CHECKS.yes("the same name, places " + places, x.matches(0, 4321, 0));
            for (int place = 0; place <= 3; place++) {
                boolean isFree = (places & (1 << place)) == 0;
                CHECKS.same("places " + places + ", another digit at place " + place,
                        x.matches(0, otherAtPlace[place], 0) ? 1 : 0, isFree ? 1 : 0);
            }
        }
        HostKeyring x = new HostKeyring();
        x.addLine(HostKeyring.PLAIN, 1);
        x.addPattern(0, 7, 1, 0, false);
        CHECKS.yes("0007 and 0999 begin alike", x.matches(0, 999, 0));
        CHECKS.no("0007 and 1007 do not", x.matches(0, 1007, 0));
    }

    private static void deniedPatterns() {
        HostKeyring x = new HostKeyring();
        x.addLine(HostKeyring.PLAIN, 1);
        x.addPattern(0, 5000, 1, 1, true);
        CHECKS.no("only denied", x.matches(0, 5001, 1));
        CHECKS.no("only denied, and it does not fit", x.matches(0, 6001, 1));
        x.addPattern(0, 1, 8, 1, false);
        CHECKS.no("denied ahead of one that fits", x.matches(0, 5001, 1));
        CHECKS.yes("the denied one does not fit", x.matches(0, 6001, 1));
        x.addPattern(0, 600, 2, 1, true);
        CHECKS.no("denied behind one that fits", x.matches(0, 6601, 1));
        CHECKS.yes("neither denied one fits", x.matches(0, 6501, 1));
        x.addPattern(0, 0, 0, 2, false);
        CHECKS.yes("denied at another port only", x.matches(0, 5601, 2));
    }

    private static void addPatternRefuses() {
        HostKeyring x = new HostKeyring();
        CHECKS.noSuch("no line at all", () -> x.addPattern(0, 0, 0, 0, false));
        x.addLine(HostKeyring.PLAIN, 1);
        x.addHashed(HostKeyring.PLAIN, 1, 0, 0, 0);
        CHECKS.noSuch("line 2 of 2", () -> x.addPattern(2, 0, 0, 0, false));
        CHECKS.noSuch("no line and a wrong name", () -> x.addPattern(2, -1, 0, 0, false));
        CHECKS.outOfRange("name 10000", () -> x.addPattern(0, 10000, 0, 0, false));
        CHECKS.outOfRange("places 16", () -> x.addPattern(0, 0, 16, 0, false));
        CHECKS.outOfRange("port 4", () -> x.addPattern(0, 0, 0, 4, false));
        for (int wrong : OUTSIDE) {
            CHECKS.noSuch("line " + wrong, () -> x.addPattern(wrong, 0, 0, 0, false));
            CHECKS.outOfRange("name " + wrong, () -> x.addPattern(0, wrong, 0, 0, false));
            CHECKS.outOfRange("places " + wrong, () -> x.addPattern(0, 0, wrong, 0, false));
            CHECKS.outOfRange("port " + wrong, () -> x.addPattern(0, 0, 0, wrong, false));
        }
        CHECKS.notNow("a hashed line", () -> x.addPattern(1, 0, 0, 0, false));
        CHECKS.outOfRange("a hashed line and a wrong port", () -> x.addPattern(1, 0, 0, 4, false));
        for (int count = 1; count <= 4; count++) {
            CHECKS.same("refused patterns are not added", x.addPattern(0, 1111, 15, 0, false), count);
        }
        CHECKS.notNow("a fifth pattern", () -> x.addPattern(0, 2222, 15, 0, false));
        CHECKS.outOfRange("a fifth pattern with wrong places", () -> x.addPattern(0, 2222, 16, 0, false));
        CHECKS.no("the fifth pattern is not there", x.matches(0, 2222, 0));
    }

    private static void addHashed() {
        HostKeyring x = new HostKeyring();
        CHECKS.same("addHashed, first", x.addHashed(HostKeyring.AUTHORITY, 199, 100, 3, 99), 0);
        CHECKS.same("addHashed, second", x.addHashed(HostKeyring.PLAIN, 0, 9999, 0, 0), 1);
        CHECKS.same("lines", x.lines(), 2);
        CHECKS.same("mark and key", x.keyOf(0), 2199);
        CHECKS.yes("the name", x.matches(0, 100, 3));
        CHECKS.no("another port", x.matches(0, 100, 2));
        CHECKS.no("the name after it", x.matches(0, 101, 3));
        CHECKS.yes("499 names further the hash is the same", x.matches(0, 599, 3));
        CHECKS.yes("the last name", x.matches(1, 9999, 0));
        x.addHashed(HostKeyring.PLAIN, 0, 0, 1, 0);
        CHECKS.yes("the first name with the first salt", x.matches(2, 499, 1));
        CHECKS.no("and none of another hash", x.matches(2, 498, 1));
    }

    /** A book for each 500 names, as more than 512 calls are promised for none. */
    private static void hashesOfAllNames() {
        for (int first = 0; first <= 9999; first += 500) {
            HostKeyring x = new HostKeyring();
            x.addHashed(HostKeyring.PLAIN, 0, 100, 3, 99);
            for (int name = first; name < first + 500; name++) {
                CHECKS.same("hash of " + name, x.matches(0, name, 3) ? 1 : 0, name % 499 == 100 ? 1 : 0);
            }
        }
    }

    private static void addHashedRefuses() {
        HostKeyring x = new HostKeyring();
        CHECKS.outOfRange("mark 3", () -> x.addHashed(3, 0, 0, 0, 0));
        CHECKS.outOfRange("key 200", () -> x.addHashed(0, 200, 0, 0, 0));
        CHECKS.outOfRange("name 10000", () -> x.addHashed(0, 0, 10000, 0, 0));
        CHECKS.outOfRange("port 4", () -> x.addHashed(0, 0, 0, 4, 0));
        CHECKS.outOfRange("salt 100", () -> x.addHashed(0, 0, 0, 0, 100));
        for (int wrong : OUTSIDE) {
            CHECKS.outOfRange("mark " + wrong, () -> x.addHashed(wrong, 0, 0, 0, 0));
            CHECKS.outOfRange("key " + wrong, () -> x.addHashed(0, wrong, 0, 0, 0));
            CHECKS.outOfRange("name " + wrong, () -> x.addHashed(0, 0, wrong, 0, 0));
            CHECKS.outOfRange("port " + wrong, () -> x.addHashed(0, 0, 0, wrong, 0));
            CHECKS.outOfRange("salt " + wrong, () -> x.addHashed(0, 0, 0, 0, wrong));
        }
        CHECKS.same("refused lines are not added", x.lines(), 0);
    }

    private static void remove() {
        HostKeyring x = new HostKeyring();
        CHECKS.noSuch("remove from an empty book", () -> x.remove(0));
        for (int key = 10; key < 15; key++) {
            x.addLine(HostKeyring.AUTHORITY, key);
        }
        CHECKS.noSuch("remove line 5 of 5", () -> x.remove(5));
        for (int wrong : OUTSIDE) {
            CHECKS.noSuch("remove line " + wrong, () -> x.remove(wrong));
        }
        CHECKS.same("the key without its mark", x.remove(1), 11);
        CHECKS.same("lines behind it move up", x.keyOf(1), 2012);
        CHECKS.same("the last moves up", x.keyOf(3), 2014);
        CHECKS.noSuch("the old last number", () -> x.keyOf(4));
        CHECKS.same("the last line", x.remove(3), 14);
        CHECKS.same("the first line", x.remove(0), 10);
        CHECKS.same("lines left", x.lines(), 2);
        CHECKS.same("first left", x.keyOf(0), 2012);
        CHECKS.same("second left", x.keyOf(1), 2013);
    }

    private static void removedLinesLeaveNothingBehind() {
        HostKeyring x = new HostKeyring();
        x.setFirstSight(HostKeyring.ACCEPT, false);
        x.answer(5, 0, 6, HostKeyring.NONE);
        x.turn(5, 0, 6, 7, 3);
        x.addHashed(HostKeyring.REVOKED_MARK, 6, 5, 1, 9);
        x.pass(2);
        CHECKS.same("remove the hashed line", x.remove(2), 6);
        CHECKS.same("remove the line with an end", x.remove(0), 6);
        CHECKS.same("a line added then", x.addLine(HostKeyring.AUTHORITY, 6), 1);
        CHECKS.same("another line added then", x.addLine(HostKeyring.PLAIN, 8), 2);
        for (int line = 1; line <= 2; line++) {
            CHECKS.same("it has no end", x.end(line), HostKeyring.NONE);
            CHECKS.same("it was seen today", x.seen(line), 2);
            CHECKS.no("it has no patterns", x.matches(line, 5, 0));
            CHECKS.no("it is not hashed", x.matches(line, 5, 1));
            CHECKS.same("it takes a first pattern", x.addPattern(line, 5, 15, 2, false), 1);
        }
        CHECKS.same("the key turned to is where it was", x.keyOf(0), 7);
        CHECKS.yes("and matches as before", x.matches(0, 5, 0));
    }

    private static void linesAreNoMoreThanForty() {
        HostKeyring x = new HostKeyring();
        for (int i = 0; i < 40; i++) {
            CHECKS.same("line " + i, i % 2 == 0 ? x.addLine(i % 3, i) : x.addHashed(i % 3, i, i, 0, 0), i);
        }
        CHECKS.notNow("a line more", () -> x.addLine(0, 0));
        CHECKS.notNow("a hashed line more", () -> x.addHashed(0, 0, 0, 0, 0));
        CHECKS.outOfRange("a line more with a wrong mark", () -> x.addLine(3, 0));
        CHECKS.outOfRange("a hashed line more with a wrong salt", () -> x.addHashed(0, 0, 0, 0, 100));
        CHECKS.same("lines", x.lines(), 40);
        CHECKS.same("the last of forty", x.linesOf(39), 1L << 39);
        CHECKS.same("none of forty is found", x.find(1, 3), HostKeyring.NONE);
        CHECKS.same("none of forty tells", x.judge(0, 3, 0, HostKeyring.NONE), HostKeyring.NEW);
        CHECKS.same("take one out", x.remove(20), 20);
        CHECKS.same("the last moves up", x.linesOf(39), 1L << 38);
        CHECKS.same("there is room for one", x.addLine(0, 77), 39);
        CHECKS.notNow("not for two", () -> x.addLine(0, 0));
    }

    private static void keyOf() {
        HostKeyring x = new HostKeyring();
        CHECKS.noSuch("keyOf in an empty book", () -> x.keyOf(0));
        x.addLine(HostKeyring.PLAIN, 199);
        x.addLine(HostKeyring.REVOKED_MARK, 0);
        x.addLine(HostKeyring.AUTHORITY, 12);
        CHECKS.same("keyOf, plain", x.keyOf(0), 199);
        CHECKS.same("keyOf, revoked", x.keyOf(1), 1000);
        CHECKS.same("keyOf, authority", x.keyOf(2), 2012);
        CHECKS.noSuch("keyOf line 3 of 3", () -> x.keyOf(3));
        for (int wrong : OUTSIDE) {
            CHECKS.noSuch("keyOf line " + wrong, () -> x.keyOf(wrong));
        }
    }

    private static void seen() {
        HostKeyring x = new HostKeyring();
        CHECKS.noSuch("seen in an empty book", () -> x.seen(0));
        x.addLine(HostKeyring.PLAIN, 1);
        x.pass(7);
        x.addLine(HostKeyring.PLAIN, 2);
        x.addHashed(HostKeyring.PLAIN, 2, 1, 1, 1);
        x.pass(1);
        x.addPattern(0, 1, 15, 1, false);
        CHECKS.same("seen on day 0", x.seen(0), 0);
        CHECKS.same("seen on the day of adding", x.seen(1), 7);
        CHECKS.same("a hashed line's too", x.seen(2), 7);
        CHECKS.noSuch("seen line 3 of 3", () -> x.seen(3));
        for (int wrong : OUTSIDE) {
            CHECKS.noSuch("seen line " + wrong, () -> x.seen(wrong));
        }
    }

    private static void end() {
        HostKeyring x = new HostKeyring();
        CHECKS.noSuch("end in an empty book", () -> x.end(0));
        x.addLine(HostKeyring.PLAIN, 1);
        x.addPattern(0, 1, 15, 1, false);
        x.addHashed(HostKeyring.PLAIN, 2, 1, 2, 1);
        CHECKS.same("no end at first", x.end(0), HostKeyring.NONE);
        CHECKS.same("a hashed line has none at first", x.end(1), HostKeyring.NONE);
        x.turn(1, 1, 1, 2, 9);
        CHECKS.same("an end", x.end(0), 9);
        CHECKS.noSuch("end of line 3 of 3", () -> x.end(3));
        for (int wrong : OUTSIDE) {
            CHECKS.noSuch("end of line " + wrong, () -> x.end(wrong));
        }
    }

    private static void matchesRefuses() {
        HostKeyring x = new HostKeyring();
        CHECKS.noSuch("matches in an empty book", () -> x.matches(0, 0, 0) ? 1 : 0);
        x.addLine(HostKeyring.PLAIN, 1);
        CHECKS.noSuch("matches of line 1 of 1", () -> x.matches(1, 0, 0) ? 1 : 0);
        CHECKS.noSuch("no line and a wrong name", () -> x.matches(1, -1, 0) ? 1 : 0);
        CHECKS.outOfRange("name 10000", () -> x.matches(0, 10000, 0) ? 1 : 0);
        CHECKS.outOfRange("port 4", () -> x.matches(0, 0, 4) ? 1 : 0);
        for (int wrong : OUTSIDE) {
            CHECKS.noSuch("line " + wrong, () -> x.matches(wrong, 0, 0) ? 1 : 0);
            CHECKS.outOfRange("name " + wrong, () -> x.matches(0, wrong, 0) ? 1 : 0);
            CHECKS.outOfRange("port " + wrong, () -> x.matches(0, 0, wrong) ? 1 : 0);
        }
        x.addPattern(0, 3, 15, 0, false);
        x.turn(3, 0, 1, 2, 0);
        CHECKS.yes("a line that has ended matches", x.matches(0, 3, 0));
    }

    private static void find() {
        HostKeyring x = new HostKeyring();
        x.addLine(HostKeyring.PLAIN, 1);
        x.addLine(HostKeyring.REVOKED_MARK, 2);
        x.addPattern(1, 5000, 1, 1, false);
        x.addHashed(HostKeyring.AUTHORITY, 3, 7000, 1, 5);
        x.addLine(HostKeyring.PLAIN, 4);
        x.addPattern(3, 0, 0, 1, false);
        CHECKS.same("a revoked line is found", x.find(5555, 1), 1);
        CHECKS.same("a hashed authority is found", x.find(7000, 1), 2);
        CHECKS.same("the last line is found", x.find(9999, 1), 3);
        CHECKS.same("none is found", x.find(5555, 2), HostKeyring.NONE);
        x.addPattern(0, 5555, 15, 3, false);
        CHECKS.same("the first line is found", x.find(5555, 3), 0);
        x.turn(9999, 1, 4, 5, 0);
        CHECKS.same("a line that has ended is found", x.find(9999, 1), 3);
        CHECKS.outOfRange("name 10000", () -> x.find(10000, 0));
        CHECKS.outOfRange("port 4", () -> x.find(0, 4));
        for (int wrong : OUTSIDE) {
            CHECKS.outOfRange("name " + wrong, () -> x.find(wrong, 0));
            CHECKS.outOfRange("port " + wrong, () -> x.find(0, wrong));
        }
    }

    private static void linesOf() {
        HostKeyring x = new HostKeyring();
        CHECKS.same("no lines", x.linesOf(0), 0);
        for (int i = 0; i < 40; i++) {
            x.addLine(i % 3, i % 13 == 0 ? 199 : 0);
        }
        CHECKS.same("lines of key 199", x.linesOf(199), 1L | 1L << 13 | 1L << 26 | 1L << 39);
        CHECKS.same("lines of key 1", x.linesOf(1), 0);
        CHECKS.outOfRange("key 200", () -> x.linesOf(200));
        for (int wrong : OUTSIDE) {
            CHECKS.outOfRange("key " + wrong, () -> x.linesOf(wrong));
        }
    }
}
