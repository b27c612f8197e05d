/** Promises 8 to 13, and 24. */
public final class AnswersTest {
    private static final Checks CHECKS = new Checks("AnswersTest");
    private static final int NONE = HostKeyring.NONE;
    private static final int[] OUTSIDE = {-1, Integer.MIN_VALUE, Integer.MAX_VALUE};

    public static void main(String[] args) {
        setFirstSight();
        answerSeesLines();
        answerSeesTheAuthorityOfABadCertificate();
        answerSeesNothingElse();
        answerAccepts();
        answerAcceptsHashed();
        answerAcceptsHashedWithTheLeastSum();
        answerAcceptsWhatThereIsRoomFor();
        answerAsks();
        answerRefusesFirstSights();
        whatWaitedWaitsNoMore();
        answerRefuses();
        confirm();
        confirmRefuses();
        turn();
        turnSeveralLines();
        turnLinesWithAllPatterns();
        turnKeepsEarlierEnds();
        turnAsFarAsThereIsRoom();
        turnRefuses();
        pass();
        clean();
        cleanKeepsMarkedLines();
        cleanRefuses();
        CHECKS.finish();
    }

    private static HostKeyring knowing(int name, int port, int key) {
        HostKeyring x = new HostKeyring();
        x.addLine(HostKeyring.PLAIN, key);
        x.addPattern(0, name, 15, port, false);
        return x;
    }

    private static void setFirstSight() {
        HostKeyring x = new HostKeyring();
        CHECKS.same("asked at first", x.setFirstSight(HostKeyring.ACCEPT, false), HostKeyring.ASK);
        CHECKS.same("accepted before", x.setFirstSight(HostKeyring.REFUSE, false), HostKeyring.ACCEPT);
        CHECKS.same("refused before", x.setFirstSight(HostKeyring.REFUSE, true), HostKeyring.REFUSE);
        CHECKS.outOfRange("rule 3", () -> x.setFirstSight(3, false));
        for (int wrong : OUTSIDE) {
            CHECKS.outOfRange("rule " + wrong, () -> x.setFirstSight(wrong, false));
        }
        CHECKS.same("a refused rule is not set", x.setFirstSight(HostKeyring.ACCEPT, true), HostKeyring.REFUSE);
        CHECKS.outOfRange("a wrong rule and not hashed", () -> x.setFirstSight(3, false));
        x.answer(1, 1, 1, NONE);
        CHECKS.yes("a refused call leaves lines hashed", x.matches(0, 500, 1));
    }

    private static void answerSeesLines() {
        HostKeyring x = knowing(10, 0, 4);
        x.addHashed(HostKeyring.PLAIN, 4, 10, 0, 3);
        x.addHashed(HostKeyring.AUTHORITY, 4, 10, 0, 4);
        x.addHashed(HostKeyring.PLAIN, 5, 10, 0, 4);
        x.addHashed(HostKeyring.PLAIN, 4, 10, 1, 4);
        x.addHashed(HostKeyring.PLAIN, 4, 11, 0, 4);
        x.pass(3);
        CHECKS.same("trusted", x.answer(10, 0, 4, NONE), HostKeyring.TRUSTED);
        CHECKS.same("a line with the key", x.seen(0), 3);
        CHECKS.same("another line with the key", x.seen(1), 3);
        CHECKS.same("an authority with the key", x.seen(2), 3);
        CHECKS.same("another key", x.seen(3), 0);
        CHECKS.same("another port", x.seen(4), 0);
        CHECKS.same("another name", x.seen(5), 0);
        CHECKS.same("no line is added", x.lines(), 6);
        CHECKS.same("nothing waits", x.waiting(), NONE);
    }

    private static void answerSeesTheAuthorityOfABadCertificate() {
        HostKeyring x = knowing(10, 0, 4);
        x.addHashed(HostKeyring.AUTHORITY, 90, 10, 0, 4);
        x.addHashed(HostKeyring.PLAIN, 90, 10, 0, 4);
        x.addHashed(HostKeyring.REVOKED_MARK, 90, 11, 0, 4);
        x.addHashed(HostKeyring.AUTHORITY, 91, 10, 0, 4);
        x.certify(90, 4, 10, 15, 0, 0, 1);
        x.certify(90, 5, 10, 15, 0, 0, 5000);
        x.pass(3);
        CHECKS.same("trusted, the certificate is over", x.answer(10, 0, 4, 0), HostKeyring.TRUSTED);
        CHECKS.same("the line", x.seen(0), 3);
        CHECKS.same("the authority", x.seen(1), 3);
        CHECKS.same("a plain line with the authority as key", x.seen(2), 3);
        CHECKS.same("a revoked line", x.seen(3), 0);
        CHECKS.same("another authority", x.seen(4), 0);
        x.pass(1);
        CHECKS.same("trusted, the certificate is for another key", x.answer(10, 0, 4, 1), HostKeyring.TRUSTED);
        CHECKS.same("the authority then", x.seen(1), 4);
        x.pass(1);
        CHECKS.same("certified", x.answer(10, 0, 5, 1), HostKeyring.CERTIFIED);
        CHECKS.same("the certified authority", x.seen(1), 5);
        CHECKS.same("the line with another key", x.seen(0), 4);
    }

    private static void answerSeesNothingElse() {
        HostKeyring x = knowing(10, 0, 4);
        x.turn(10, 0, 4, 7, 2);
        x.pass(1);
        CHECKS.same("trusted, the line has not ended", x.answer(10, 0, 4, NONE), HostKeyring.TRUSTED);
        CHECKS.same("it is seen", x.seen(0), 1);
        x.pass(1);
        CHECKS.same("it has ended, the new one is of its kind", x.answer(10, 0, 4, NONE), HostKeyring.CHANGED);
        CHECKS.same("the line that ended is not seen", x.seen(0), 1);
        CHECKS.same("nothing waits when changed", x.waiting(), NONE);
        CHECKS.same("no line is added when changed", x.lines(), 2);
        x.addHashed(HostKeyring.PLAIN, 4, 10, 0, 0);
        x.pass(1);
        CHECKS.same("trusted by another line", x.answer(10, 0, 4, NONE), HostKeyring.TRUSTED);
        CHECKS.same("that is seen", x.seen(2), 3);
        CHECKS.same("the line that ended is not", x.seen(0), 1);
        x.addHashed(HostKeyring.REVOKED_MARK, 4, 10, 0, 0);
        x.pass(1);
        CHECKS.same("revoked", x.answer(10, 0, 4, NONE), HostKeyring.REVOKED);
        CHECKS.same("nothing is seen when revoked", x.seen(2), 3);
        CHECKS.same("nothing waits when revoked", x.waiting(), NONE);
    }

    private static void answerAccepts() {
        HostKeyring x = new HostKeyring();
        x.setFirstSight(HostKeyring.ACCEPT, false);
        x.pass(6);
        CHECKS.same("new", x.answer(1230, 2, 44, NONE), HostKeyring.NEW);
        CHECKS.same("a line is added", x.lines(), 1);
        CHECKS.same("plain, with the key", x.keyOf(0), 44);
        CHECKS.same("seen today", x.seen(0), 6);
        CHECKS.same("without an end", x.end(0), NONE);
        CHECKS.same("nothing waits", x.waiting(), NONE);
        CHECKS.yes("it matches", x.matches(0, 1230, 2));
        CHECKS.no("not another port", x.matches(0, 1230, 1));
        for (int other : new int[] {2230, 1330, 1240, 1231, 1729}) {
            CHECKS.no("not " + other, x.matches(0, other, 2));
        }
        CHECKS.same("it has one pattern", x.addPattern(0, 0, 0, 0, false), 2);
        CHECKS.same("other, also with this rule", x.answer(1230, 2, 45, NONE), HostKeyring.OTHER);
        CHECKS.same("it waits", x.waiting(), 45);
        CHECKS.same("no line is added for it", x.lines(), 1);
    }

    private static void answerAcceptsHashed() {
        HostKeyring x = new HostKeyring();
        x.setFirstSight(HostKeyring.ACCEPT, true);
        CHECKS.same("new", x.answer(9999, 3, 199, NONE), HostKeyring.NEW);
        CHECKS.yes("it matches", x.matches(0, 9999, 3));
        CHECKS.yes("a name of the same hash", x.matches(0, 9500, 3));
        CHECKS.no("another port", x.matches(0, 9999, 2));
        CHECKS.no("another name", x.matches(0, 9998, 3));
        CHECKS.notNow("it is hashed", () -> x.addPattern(0, 9999, 15, 3, false));
        CHECKS.same("turn a hashed line", x.turn(9500, 3, 199, 0, 5), 1);
        CHECKS.yes("it is like it", x.matches(1, 9999, 3));
    }

    private static void answerAcceptsHashedWithTheLeastSum() {
        HostKeyring x = new HostKeyring();
        x.setFirstSight(HostKeyring.ACCEPT, true);
        CHECKS.same("new", x.answer(0, 0, 199, NONE), HostKeyring.NEW);
        CHECKS.yes("the name", x.matches(0, 0, 0));
        CHECKS.yes("a name of the same hash", x.matches(0, 499, 0));
    }

    private static void answerAcceptsWhatThereIsRoomFor() {
        HostKeyring x = new HostKeyring();
        x.setFirstSight(HostKeyring.ACCEPT, false);
        for (int i = 0; i < 40; i++) {
            CHECKS.same("new " + i, x.answer(i, 0, i, NONE), HostKeyring.NEW);
        }
        CHECKS.same("new without room", x.answer(40, 0, 40, NONE), HostKeyring.NEW);
        CHECKS.same("no line is added", x.lines(), 40);
        CHECKS.same("it does not wait", x.waiting(), NONE);
        CHECKS.same("it is still new", x.judge(40, 0, 40, NONE), HostKeyring.NEW);
        x.pass(1);
        CHECKS.same("trusted in a full book", x.answer(39, 0, 39, NONE), HostKeyring.TRUSTED);
        CHECKS.same("its last line is seen", x.seen(39), 1);
        CHECKS.same("the others are not", x.clean(1), 39);
    }

    private static void answerAsks() {
        HostKeyring x = new HostKeyring();
        CHECKS.same("new", x.answer(1, 2, 0, NONE), HostKeyring.NEW);
        CHECKS.same("key 0 waits", x.waiting(), 0);
        CHECKS.same("no line is added", x.lines(), 0);
        CHECKS.same("confirm", x.confirm(), 0);
        CHECKS.same("other", x.answer(1, 2, 1, NONE), HostKeyring.OTHER);
        CHECKS.same("it waits too", x.waiting(), 1);
    }

    private static void answerRefusesFirstSights() {
        HostKeyring x = knowing(5, 0, 9);
        x.setFirstSight(HostKeyring.REFUSE, false);
        CHECKS.same("new", x.answer(6, 0, 9, NONE), HostKeyring.NEW);
        CHECKS.same("it does not wait", x.waiting(), NONE);
        CHECKS.same("no line is added", x.lines(), 1);
        CHECKS.same("other", x.answer(5, 0, 10, NONE), HostKeyring.OTHER);
        CHECKS.same("it waits with any rule", x.waiting(), 10);
    }

    private static void whatWaitedWaitsNoMore() {
        HostKeyring x = knowing(5, 0, 9);
        x.addHashed(HostKeyring.REVOKED_MARK, 8, 5, 0, 0);
        x.addHashed(HostKeyring.AUTHORITY, 7, 5, 0, 0);
        x.certify(7, 70, 5, 15, 0, 0, 5000);
        int[] keys = {9, 8, 12, 70};
        int[] certificates = {NONE, NONE, NONE, 0};
        int[] judgements = {HostKeyring.TRUSTED, HostKeyring.REVOKED, HostKeyring.CHANGED, HostKeyring.CERTIFIED};
        for (int i = 0; i < keys.length; i++) {
            x.answer(6, 0, 11, NONE);
            CHECKS.same("waits", x.waiting(), 11);
            CHECKS.same("answer " + keys[i], x.answer(5, 0, keys[i], certificates[i]), judgements[i]);
            CHECKS.same("waits no more", x.waiting(), NONE);
            CHECKS.notNow("nothing to confirm", () -> x.confirm());
        }
        x.answer(6, 0, 11, NONE);
        x.answer(7, 1, 13, NONE);
        CHECKS.same("the later one waits", x.waiting(), 13);
        x.setFirstSight(HostKeyring.REFUSE, false);
        x.pass(1);
        x.clean(5000);
        x.judge(5, 0, 9, NONE);
        CHECKS.same("other calls leave it waiting", x.waiting(), 13);
        x.answer(6, 0, 11, NONE);
        CHECKS.same("a refused first sight ends it", x.waiting(), NONE);
    }

    private static void answerRefuses() {
        HostKeyring x = new HostKeyring();
        x.certify(1, 1, 1, 15, 1, 0, 5000);
        x.answer(3, 3, 3, NONE);
        CHECKS.noSuch("certificate 1 of 1", () -> x.answer(0, 0, 0, 1));
        CHECKS.noSuch("certificate -2", () -> x.answer(0, 0, 0, -2));
        CHECKS.noSuch("no certificate and a wrong name", () -> x.answer(-1, 0, 0, 1));
        CHECKS.outOfRange("name 10000", () -> x.answer(10000, 0, 0, 0));
        CHECKS.outOfRange("port 4", () -> x.answer(0, 4, 0, 0));
        CHECKS.outOfRange("key 200", () -> x.answer(0, 0, 200, 0));
        for (int wrong : OUTSIDE) {
            CHECKS.outOfRange("name " + wrong, () -> x.answer(wrong, 0, 0, NONE));
            CHECKS.outOfRange("port " + wrong, () -> x.answer(0, wrong, 0, NONE));
            CHECKS.outOfRange("key " + wrong, () -> x.answer(0, 0, wrong, NONE));
        }
        CHECKS.noSuch("the least certificate", () -> x.answer(0, 0, 0, Integer.MIN_VALUE));
        CHECKS.noSuch("the greatest certificate", () -> x.answer(0, 0, 0, Integer.MAX_VALUE));
        CHECKS.same("what waited waits on", x.waiting(), 3);
    }

    private static void confirm() {
        HostKeyring x = new HostKeyring();
        x.answer(123, 1, 50, NONE);
        x.pass(4);
        x.addLine(HostKeyring.AUTHORITY, 1);
        CHECKS.same("confirm", x.confirm(), 1);
        CHECKS.same("plain, with the key", x.keyOf(1), 50);
        CHECKS.same("seen today", x.seen(1), 4);
        CHECKS.same("without an end", x.end(1), NONE);
        CHECKS.yes("it matches", x.matches(1, 123, 1));
        CHECKS.no("it is not hashed", x.matches(1, 622, 1));
        CHECKS.no("not another port", x.matches(1, 123, 0));
        CHECKS.same("nothing waits", x.waiting(), NONE);
        CHECKS.same("it has one pattern", x.addPattern(1, 0, 0, 0, false), 2);
        x.answer(124, 1, 50, NONE);
        x.setFirstSight(HostKeyring.REFUSE, true);
        CHECKS.same("confirm, hashed now, whatever the rule", x.confirm(), 2);
        CHECKS.yes("a name of the same hash", x.matches(2, 623, 1));
        CHECKS.notNow("it is hashed", () -> x.addPattern(2, 124, 15, 1, false));
        x.setFirstSight(HostKeyring.ASK, true);
        x.answer(125, 1, 50, NONE);
        x.setFirstSight(HostKeyring.ASK, false);
        CHECKS.same("confirm, not hashed now", x.confirm(), 3);
        CHECKS.no("no name of the same hash", x.matches(3, 624, 1));
    }

    private static void confirmRefuses() {
        HostKeyring x = new HostKeyring();
        CHECKS.notNow("nothing waits", () -> x.confirm());
        x.answer(1, 1, 1, NONE);
        for (int i = 0; i < 40; i++) {
            x.addLine(HostKeyring.PLAIN, 0);
        }
        CHECKS.notNow("there are 40 lines", () -> x.confirm());
        CHECKS.same("it waits on", x.waiting(), 1);
        x.remove(0);
        CHECKS.same("there is room", x.confirm(), 39);
        CHECKS.notNow("it was confirmed", () -> x.confirm());
        CHECKS.same("lines", x.lines(), 40);
    }

    private static void turn() {
        HostKeyring x = new HostKeyring();
        x.addLine(HostKeyring.PLAIN, 6);
        x.addPattern(0, 5000, 1, 1, false);
        x.addPattern(0, 5500, 3, 1, true);
        x.pass(10);
        CHECKS.same("turn", x.turn(5000, 1, 6, 7, 1000), 1);
        CHECKS.same("lines", x.lines(), 2);
        CHECKS.same("the new key", x.keyOf(1), 7);
        CHECKS.same("seen today", x.seen(1), 10);
        CHECKS.same("no end", x.end(1), NONE);
        CHECKS.same("the old one is not seen", x.seen(0), 0);
        CHECKS.same("the old one ends", x.end(0), 1010);
        CHECKS.same("the old one keeps its key", x.keyOf(0), 6);
        CHECKS.yes("the new one has the pattern", x.matches(1, 5999, 1) && x.matches(1, 5000, 1));
        CHECKS.no("and the denied one", x.matches(1, 5511, 1));
        CHECKS.same("both are trusted, the old", x.judge(5000, 1, 6, NONE), HostKeyring.TRUSTED);
        CHECKS.same("both are trusted, the new", x.judge(5000, 1, 7, NONE), HostKeyring.TRUSTED);
        CHECKS.same("a pattern of the new one", x.addPattern(1, 5511, 15, 2, false), 3);
        CHECKS.no("is none of the old one", x.matches(0, 5511, 2));
        x.addPattern(0, 5511, 15, 3, false);
        CHECKS.no("nor one of the old one the new one's", x.matches(1, 5511, 3));
        HostKeyring y = knowing(5, 0, 6);
        CHECKS.same("turn in 0 days", y.turn(5, 0, 6, 7, 0), 1);
        CHECKS.same("it ends today", y.end(0), 0);
        CHECKS.same("the old key has ended", y.judge(5, 0, 6, NONE), HostKeyring.OTHER);
        CHECKS.notNow("it can't be turned again", () -> y.turn(5, 0, 6, 8, 0));
    }

    private static void turnSeveralLines() {
        HostKeyring x = new HostKeyring();
        x.addHashed(HostKeyring.PLAIN, 6, 50, 1, 30);
        x.addHashed(HostKeyring.PLAIN, 9, 50, 1, 31);
        x.addHashed(HostKeyring.AUTHORITY, 6, 50, 1, 32);
        x.addHashed(HostKeyring.PLAIN, 6, 50, 2, 33);
        x.addHashed(HostKeyring.PLAIN, 6, 51, 1, 34);
        x.addLine(HostKeyring.PLAIN, 6);
        x.addPattern(5, 0, 0, 1, false);
        CHECKS.same("turn", x.turn(50, 1, 6, 7, 4), 2);
        CHECKS.same("lines with the new key", x.linesOf(7), 1L << 6 | 1L << 7);
        CHECKS.yes("by rising numbers, the hashed one first", x.matches(6, 549, 1));
        CHECKS.no("it is hashed", x.matches(6, 51, 1));
        CHECKS.yes("then the one with a pattern", x.matches(7, 51, 1));
        long[] ends = {4, NONE, NONE, NONE, NONE, 4, NONE, NONE};
        for (int i = 0; i < ends.length; i++) {
            CHECKS.same("end of line " + i, x.end(i), ends[i]);
        }
    }

    private static void turnLinesWithAllPatterns() {
        HostKeyring x = new HostKeyring();
        x.addLine(HostKeyring.PLAIN, 6);
        for (int port = 0; port <= 3; port++) {
            x.addPattern(0, 1111 * port, 15, port, false);
        }
        CHECKS.same("turn", x.turn(1111, 1, 6, 7, 1), 1);
        for (int port = 0; port <= 3; port++) {
            CHECKS.yes("pattern " + port, x.matches(1, 1111 * port, port));
        }
        CHECKS.notNow("it has four", () -> x.addPattern(1, 0, 0, 0, false));
    }

    private static void turnKeepsEarlierEnds() {
        HostKeyring x = knowing(5, 0, 6);
        x.turn(5, 0, 6, 7, 100);
        x.pass(10);
        CHECKS.same("turn again, later", x.turn(5, 0, 6, 8, 91), 1);
        CHECKS.same("it ends at the earlier day", x.end(0), 100);
        CHECKS.same("the new line has no end", x.end(2), NONE);
        CHECKS.same("turn again, earlier", x.turn(5, 0, 6, 10, 89), 1);
        CHECKS.same("it ends earlier", x.end(0), 99);
        x.pass(88);
        CHECKS.same("a day ahead of the end", x.judge(5, 0, 6, NONE), HostKeyring.TRUSTED);
        x.pass(1);
        CHECKS.same("on the day of the end", x.judge(5, 0, 6, NONE), HostKeyring.OTHER);
        CHECKS.notNow("it has ended", () -> x.turn(5, 0, 6, 11, 1));
    }

    private static void turnAsFarAsThereIsRoom() {
        HostKeyring x = new HostKeyring();
        for (int i = 0; i < 38; i++) {
            x.addHashed(HostKeyring.PLAIN, 6, 50, 1, i);
        }
        CHECKS.same("turn with room for two", x.turn(50, 1, 6, 7, 4), 2);
        CHECKS.same("lines", x.lines(), 40);
        CHECKS.same("the first ends", x.end(0), 4);
        CHECKS.same("the second ends", x.end(1), 4);
        CHECKS.same("the third stays", x.end(2), NONE);
        CHECKS.same("turn without room", x.turn(50, 1, 6, 8, 1), 0);
        CHECKS.same("nothing is changed", x.end(0), 4);
        CHECKS.same("lines then", x.lines(), 40);
    }

    private static void turnRefuses() {
        HostKeyring x = knowing(5, 0, 6);
        x.addHashed(HostKeyring.REVOKED_MARK, 9, 5, 0, 0);
        x.addHashed(HostKeyring.REVOKED_MARK, 12, 6, 0, 0);
        x.addHashed(HostKeyring.PLAIN, 9, 5, 0, 0);
        x.addHashed(HostKeyring.AUTHORITY, 20, 5, 0, 0);
        x.certify(20, 21, 5, 15, 0, 0, 5000);
        CHECKS.outOfRange("name 10000", () -> x.turn(10000, 0, 6, 7, 1));
        CHECKS.outOfRange("port 4", () -> x.turn(5, 4, 6, 7, 1));
        CHECKS.outOfRange("old 200", () -> x.turn(5, 0, 200, 7, 1));
        CHECKS.outOfRange("other 200", () -> x.turn(5, 0, 6, 200, 1));
        CHECKS.outOfRange("days 1001", () -> x.turn(5, 0, 6, 7, 1001));
        CHECKS.outOfRange("the same keys", () -> x.turn(5, 0, 6, 6, 1));
        CHECKS.outOfRange("the same keys, not trusted", () -> x.turn(5, 0, 7, 7, 1));
        for (int wrong : OUTSIDE) {
            CHECKS.outOfRange("name " + wrong, () -> x.turn(wrong, 0, 6, 7, 1));
            CHECKS.outOfRange("port " + wrong, () -> x.turn(5, wrong, 6, 7, 1));
            CHECKS.outOfRange("old " + wrong, () -> x.turn(5, 0, wrong, 7, 1));
            CHECKS.outOfRange("other " + wrong, () -> x.turn(5, 0, 6, wrong, 1));
            CHECKS.outOfRange("days " + wrong, () -> x.turn(5, 0, 6, 7, wrong));
        }
        CHECKS.notNow("an old key of which nothing is known", () -> x.turn(5, 0, 8, 7, 1));
        CHECKS.notNow("another name", () -> x.turn(7, 0, 6, 7, 1));
        CHECKS.notNow("an old key that is revoked", () -> x.turn(5, 0, 9, 7, 1));
        CHECKS.notNow("an old key that is only certified", () -> x.turn(5, 0, 21, 7, 1));
        CHECKS.notNow("a new key that is revoked", () -> x.turn(5, 0, 6, 9, 1));
        CHECKS.same("nothing was added", x.lines(), 5);
        CHECKS.same("nothing was changed", x.end(0), NONE);
        CHECKS.same("a new key revoked for another name", x.turn(5, 0, 6, 12, 1), 1);
    }

    private static void pass() {
        HostKeyring x = new HostKeyring();
        CHECKS.same("pass 1", x.pass(1), 1);
        CHECKS.same("day", x.day(), 1);
        CHECKS.outOfRange("pass 0", () -> x.pass(0));
        CHECKS.outOfRange("pass 1001", () -> x.pass(1001));
        for (int wrong : OUTSIDE) {
            CHECKS.outOfRange("pass " + wrong, () -> x.pass(wrong));
        }
        for (int i = 1; i <= 4; i++) {
            CHECKS.same("pass 1000", x.pass(1000), 1000 * i + 1);
        }
        CHECKS.notNow("pass to day 5001", () -> x.pass(1000));
        CHECKS.same("the day stays", x.day(), 4001);
        CHECKS.same("pass to day 5000", x.pass(999), 5000);
        CHECKS.notNow("pass from day 5000", () -> x.pass(1));
        CHECKS.outOfRange("a wrong pass from day 5000", () -> x.pass(1001));
        CHECKS.same("the last day", x.day(), 5000);
    }

    private static void clean() {
        HostKeyring x = new HostKeyring();
        CHECKS.same("clean an empty book", x.clean(1), 0);
        x.addLine(HostKeyring.PLAIN, 10);
        x.pass(5);
        x.addLine(HostKeyring.PLAIN, 11);
        x.addPattern(1, 1, 15, 1, false);
        x.pass(5);
        x.addLine(HostKeyring.PLAIN, 12);
        CHECKS.same("seen less days ago", x.clean(11), 0);
        x.turn(1, 1, 11, 13, 1);
        CHECKS.same("seen as many days ago", x.clean(10), 1);
        CHECKS.same("the others move up", x.keyOf(0), 11);
        CHECKS.same("in their order", x.keyOf(2), 13);
        x.pass(1);
        CHECKS.same("ended on this day", x.clean(5000), 1);
        CHECKS.same("first of those left", x.keyOf(0), 12);
        CHECKS.same("second of those left", x.keyOf(1), 13);
        x.pass(3);
        CHECKS.same("seen more days ago", x.clean(1), 2);
        CHECKS.same("nothing is left", x.lines(), 0);
    }

    private static void cleanKeepsMarkedLines() {
        HostKeyring x = new HostKeyring();
        for (int i = 0; i < 12; i++) {
            x.addLine(i % 3, i);
        }
        x.pass(1000);
        CHECKS.same("plain lines only", x.clean(1), 4);
        int[] left = {1001, 2002, 1004, 2005, 1007, 2008, 1010, 2011};
        CHECKS.same("lines left", x.lines(), left.length);
        for (int i = 0; i < left.length; i++) {
            CHECKS.same("line " + i, x.keyOf(i), left[i]);
        }
    }

    private static void cleanRefuses() {
        HostKeyring x = new HostKeyring();
        x.addLine(HostKeyring.PLAIN, 0);
        CHECKS.outOfRange("clean 0", () -> x.clean(0));
        CHECKS.outOfRange("clean 5001", () -> x.clean(5001));
        for (int wrong : OUTSIDE) {
            CHECKS.outOfRange("clean " + wrong, () -> x.clean(wrong));
        }
        CHECKS.same("nothing is taken out", x.lines(), 1);
    }
}
