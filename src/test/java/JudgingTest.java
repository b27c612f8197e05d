/** Promises 14 to 16. */
public final class JudgingTest {
    private static final Checks CHECKS = new Checks("JudgingTest");
    private static final int NONE = HostKeyring.NONE;
    private static final int[] OUTSIDE = {-1, Integer.MIN_VALUE, Integer.MAX_VALUE};

    public static void main(String[] args) {
        fromNewToRevoked();
        theOrderOfLinesDoesNotMatter();
        revokedAuthorities();
        marksThatDoNotTell();
        kindsAreModuloThree();
        endedLinesDoNotTell();
        judgingChangesNothing();
        judgeRefuses();
        judgeByReadingRefuses();
        day();
        CHECKS.finish();
    }

    private static void both(HostKeyring x, String what, int name, int port, int key, int due) {
        CHECKS.same("judge, " + what, x.judge(name, port, key, NONE), due);
        CHECKS.same("judgeByReading, " + what, x.judgeByReading(name, port, key), due);
    }

    private static void fromNewToRevoked() {
        HostKeyring x = new HostKeyring();
        x.certify(60, 6, 5, 15, 0, 0, 5000);
        both(x, "empty", 5, 0, 6, HostKeyring.NEW);
        x.addHashed(HostKeyring.PLAIN, 7, 5, 0, 1);
        both(x, "another kind", 5, 0, 6, HostKeyring.OTHER);
        x.addHashed(HostKeyring.PLAIN, 9, 5, 0, 1);
        both(x, "the same kind", 5, 0, 6, HostKeyring.CHANGED);
        x.addHashed(HostKeyring.PLAIN, 6, 5, 0, 1);
        both(x, "the key", 5, 0, 6, HostKeyring.TRUSTED);
        CHECKS.same("no authority", x.judge(5, 0, 6, 0), HostKeyring.TRUSTED);
        x.addHashed(HostKeyring.AUTHORITY, 60, 5, 0, 1);
        CHECKS.same("an authority", x.judge(5, 0, 6, 0), HostKeyring.CERTIFIED);
        both(x, "no certificate", 5, 0, 6, HostKeyring.TRUSTED);
        x.addHashed(HostKeyring.REVOKED_MARK, 6, 5, 0, 1);
        CHECKS.same("revoked ahead of certified", x.judge(5, 0, 6, 0), HostKeyring.REVOKED);
        both(x, "revoked", 5, 0, 6, HostKeyring.REVOKED);
        both(x, "revoked for another name", 6, 0, 6, HostKeyring.NEW);
        both(x, "revoked for another port", 5, 1, 6, HostKeyring.NEW);
        both(x, "another key is not revoked", 5, 0, 7, HostKeyring.TRUSTED);
    }

    private static void theOrderOfLinesDoesNotMatter() {
        int[] marks = {HostKeyring.REVOKED_MARK, HostKeyring.PLAIN, HostKeyring.PLAIN, HostKeyring.PLAIN};
        int[] keys = {6, 6, 9, 7};
        int[] dues = {HostKeyring.REVOKED, HostKeyring.TRUSTED, HostKeyring.CHANGED, HostKeyring.OTHER};
        for (int left = 0; left < keys.length; left++) {
            HostKeyring rising = new HostKeyring();
            HostKeyring falling = new HostKeyring();
            for (int i = left; i < keys.length; i++) {
                rising.addHashed(marks[i], keys[i], 5, 0, i);
                int last = keys.length - 1 - i + left;
                falling.addHashed(marks[last], keys[last], 5, 0, i);
            }
            both(rising, "the first that applies leads", 5, 0, 6, dues[left]);
            both(falling, "the first that applies is last", 5, 0, 6, dues[left]);
        }
    }

    private static void revokedAuthorities() {
        HostKeyring x = new HostKeyring();
        x.addHashed(HostKeyring.AUTHORITY, 60, 5, 0, 1);
        x.addHashed(HostKeyring.REVOKED_MARK, 60, 5, 0, 1);
        x.addHashed(HostKeyring.PLAIN, 6, 5, 0, 1);
        x.certify(60, 6, 5, 15, 0, 0, 5000);
        x.certify(60, 7, 9999, 15, 0, 4999, 5000);
        CHECKS.same("the authority is revoked", x.judge(5, 0, 6, 0), HostKeyring.REVOKED);
        CHECKS.same("also if the certificate is not good", x.judge(5, 0, 6, 1), HostKeyring.REVOKED);
        both(x, "without the certificate", 5, 0, 6, HostKeyring.TRUSTED);
        CHECKS.same("it does not match this name", x.judge(6, 0, 6, 0), HostKeyring.NEW);
    }

    private static void marksThatDoNotTell() {
        HostKeyring x = new HostKeyring();
        x.addHashed(HostKeyring.AUTHORITY, 6, 5, 0, 1);
        x.addHashed(HostKeyring.AUTHORITY, 7, 5, 0, 1);
        x.addHashed(HostKeyring.REVOKED_MARK, 9, 5, 0, 1);
        both(x, "an authority is not trusted as a key", 5, 0, 6, HostKeyring.NEW);
        both(x, "marked lines change nothing", 5, 0, 12, HostKeyring.NEW);
        both(x, "marked lines are no others", 5, 0, 8, HostKeyring.NEW);
    }

    private static void kindsAreModuloThree() {
        for (int known = 0; known < 200; known += 33) {
            HostKeyring x = new HostKeyring();
            x.addHashed(HostKeyring.PLAIN, known, 5, 0, 1);
            for (int key = 0; key < 200; key += 7) {
                int due = HostKeyring.OTHER;
                if (key == known) {
                    due = HostKeyring.TRUSTED;
                } else if ((key - known) % 3 == 0) {
                    due = HostKeyring.CHANGED;
                }
                both(x, "known " + known + ", key " + key, 5, 0, key, due);
            }
        }
    }

    private static void endedLinesDoNotTell() {
        HostKeyring x = new HostKeyring();
        x.addHashed(HostKeyring.PLAIN, 6, 5, 0, 1);
        x.turn(5, 0, 6, 9, 2);
        x.remove(1);
        x.pass(1);
        both(x, "ahead of the end", 5, 0, 6, HostKeyring.TRUSTED);
        both(x, "ahead of the end, changed", 5, 0, 9, HostKeyring.CHANGED);
        both(x, "ahead of the end, other", 5, 0, 8, HostKeyring.OTHER);
        x.pass(1);
        both(x, "ended", 5, 0, 6, HostKeyring.NEW);
        both(x, "ended, not changed", 5, 0, 9, HostKeyring.NEW);
        both(x, "ended, not other", 5, 0, 8, HostKeyring.NEW);
    }

    private static void judgingChangesNothing() {
        HostKeyring x = new HostKeyring();
        x.setFirstSight(HostKeyring.ACCEPT, false);
        x.addHashed(HostKeyring.PLAIN, 6, 5, 0, 1);
        x.answer(5, 0, 7, NONE);
        x.pass(2);
        both(x, "new", 6, 0, 6, HostKeyring.NEW);
        both(x, "trusted", 5, 0, 6, HostKeyring.TRUSTED);
        CHECKS.same("no line is added", x.lines(), 1);
        CHECKS.same("no line is seen", x.seen(0), 0);
        CHECKS.same("what waits waits on", x.waiting(), 7);
    }

    private static void judgeRefuses() {
        HostKeyring x = new HostKeyring();
        x.certify(1, 1, 1, 15, 1, 0, 5000);
        CHECKS.noSuch("certificate 1 of 1", () -> x.judge(0, 0, 0, 1));
        CHECKS.noSuch("certificate -2", () -> x.judge(0, 0, 0, -2));
        CHECKS.noSuch("certificate least", () -> x.judge(0, 0, 0, Integer.MIN_VALUE));
        CHECKS.noSuch("certificate greatest", () -> x.judge(0, 0, 0, Integer.MAX_VALUE));
        CHECKS.noSuch("no certificate and a wrong key", () -> x.judge(0, 0, 200, 1));
        CHECKS.outOfRange("name 10000", () -> x.judge(10000, 0, 0, 0));
        CHECKS.outOfRange("port 4", () -> x.judge(0, 4, 0, 0));
        CHECKS.outOfRange("key 200", () -> x.judge(0, 0, 200, 0));
        for (int wrong : OUTSIDE) {
            CHECKS.outOfRange("name " + wrong, () -> x.judge(wrong, 0, 0, NONE));
            CHECKS.outOfRange("port " + wrong, () -> x.judge(0, wrong, 0, NONE));
            CHECKS.outOfRange("key " + wrong, () -> x.judge(0, 0, wrong, NONE));
        }
    }

    private static void judgeByReadingRefuses() {
        HostKeyring x = new HostKeyring();
        CHECKS.outOfRange("name 10000", () -> x.judgeByReading(10000, 0, 0));
        CHECKS.outOfRange("port 4", () -> x.judgeByReading(0, 4, 0));
        CHECKS.outOfRange("key 200", () -> x.judgeByReading(0, 0, 200));
        for (int wrong : OUTSIDE) {
            CHECKS.outOfRange("name " + wrong, () -> x.judgeByReading(wrong, 0, 0));
            CHECKS.outOfRange("port " + wrong, () -> x.judgeByReading(0, wrong, 0));
            CHECKS.outOfRange("key " + wrong, () -> x.judgeByReading(0, 0, wrong));
        }
    }

    private static void day() {
        HostKeyring x = new HostKeyring();
        CHECKS.same("day 0", x.day(), 0);
        x.pass(17);
        x.addLine(HostKeyring.PLAIN, 1);
        x.answer(1, 1, 1, NONE);
        CHECKS.same("day 17", x.day(), 17);
    }
}
