/**
 * The boundaries that the document names for judging (its Terms, promises 14 to 16): each sentence has a
 * test of its own, with values on both sides. What is refused, and with which exception, is in
 * RefusalsTest.
 */
public final class JudgingLimitsTest {
    private static final Checks CHECKS = new Checks("JudgingLimitsTest");
    private static final int NONE = HostKeyring.NONE;
    private static final int PLAIN = HostKeyring.PLAIN;
    private static final int REVOKED_MARK = HostKeyring.REVOKED_MARK;
    private static final int AUTHORITY = HostKeyring.AUTHORITY;

    public static void main(String[] args) {
        revokedByALineThatMatches();
        revokedByTheAuthorityOfTheCertificate();
        certifiedByACertificateForThisKeyThatIsGood();
        trustedChangedOrOtherByALineThatMatches();
        onlyPlainLinesTell();
        linesTellUntilTheDayOfTheirEnd();
        keysAreOfOneKindModuloThree();
        theFirstJudgementThatAppliesStands();
        theLastOfFortyLinesTells();
        noneStandsForNoCertificate();
        theDayGoesFromNoneToTheLast();
        questionsChangeNothing();
        CHECKS.finish();
    }

    /** Without a certificate, by both ways. */
    private static void judged(HostKeyring x, String what, int name, int port, int key, int due) {
        CHECKS.same(what, x.judge(name, port, key, NONE), due);
        CHECKS.same(what + ", by reading", x.judgeByReading(name, port, key), due);
    }

    private static void add(HostKeyring x, int mark, int key) {
        x.addHashed(mark, key, 5, 0, 0);
    }

    /** "REVOKED: a line with the mark REVOKED matches, and its key is this key" */
    private static void revokedByALineThatMatches() {
        for (int key : new int[] {0, 100, 199}) {
            HostKeyring x = new HostKeyring();
            x.addLine(REVOKED_MARK, key);
            judged(x, "a revoked line without patterns", 5, 0, key, HostKeyring.NEW);
            x.addPattern(0, 5, 15, 0, false);
            judged(x, "revoked", 5, 0, key, HostKeyring.REVOKED);
            judged(x, "the name before it", 4, 0, key, HostKeyring.NEW);
            judged(x, "the name after it", 6, 0, key, HostKeyring.NEW);
            judged(x, "the port beside it", 5, 1, key, HostKeyring.NEW);
            judged(x, "a key beside it", 5, 0, key == 0 ? 1 : key - 1, HostKeyring.NEW);
            judged(x, "a key of its kind", 5, 0, key == 0 ? 3 : key - 3, HostKeyring.NEW);
            x.addPattern(0, 5, 8, 0, true);
            judged(x, "a revoked line that is denied", 5, 0, key, HostKeyring.NEW);
        }
    }

    /** "or the authority of the certificate" */
    private static void revokedByTheAuthorityOfTheCertificate() {
        HostKeyring x = new HostKeyring();
        x.certify(60, 7, 5, 15, 0, 0, 5000);
        x.certify(61, 7, 5, 15, 0, 0, 5000);
        x.certify(0, 7, 5, 15, 0, 0, 5000);
        add(x, REVOKED_MARK, 60);
        add(x, AUTHORITY, 60);
        add(x, AUTHORITY, 61);
        CHECKS.same("its authority", x.judge(5, 0, 7, 0), HostKeyring.REVOKED);
        CHECKS.same("its authority, another key", x.judge(5, 0, 8, 0), HostKeyring.REVOKED);
        CHECKS.same("the authority beside it", x.judge(5, 0, 7, 1), HostKeyring.CERTIFIED);
        CHECKS.same("authority 0", x.judge(5, 0, 7, 2), HostKeyring.NEW);
        judged(x, "no certificate", 5, 0, 7, HostKeyring.NEW);
        judged(x, "the authority as a key", 5, 0, 60, HostKeyring.REVOKED);
        CHECKS.same("at a port that the line does not match", x.judge(5, 1, 7, 0), HostKeyring.NEW);
        add(x, REVOKED_MARK, 0);
        CHECKS.same("authority 0, revoked", x.judge(5, 0, 7, 2), HostKeyring.REVOKED);
        judged(x, "no certificate, and 0 revoked", 5, 0, 7, HostKeyring.NEW);
    }

    /** "CERTIFIED: there is a certificate, it is for this key, and it is good." */
    private static void certifiedByACertificateForThisKeyThatIsGood() {
        HostKeyring x = new HostKeyring();
        add(x, AUTHORITY, 60);
        x.certify(60, 7, 5, 15, 0, 0, 5000);
        x.certify(60, 7, 6, 15, 0, 0, 5000);
        CHECKS.same("for this key, and good", x.judge(5, 0, 7, 0), HostKeyring.CERTIFIED);
        CHECKS.same("for this key, not good", x.judge(5, 0, 7, 1), HostKeyring.NEW);
        CHECKS.same("for the key before it", x.judge(5, 0, 8, 0), HostKeyring.NEW);
        CHECKS.same("for the key after it", x.judge(5, 0, 6, 0), HostKeyring.NEW);
        CHECKS.same("for a key of its kind", x.judge(5, 0, 10, 0), HostKeyring.NEW);
        judged(x, "no certificate", 5, 0, 7, HostKeyring.NEW);
        judged(x, "the authority is no certificate of its own", 5, 0, 60, HostKeyring.NEW);
    }

    /** "a PLAIN line that has not ended matches": with this key, another of the same kind, another */
    private static void trustedChangedOrOtherByALineThatMatches() {
        int[] keys = {6, 9, 7};
        int[] dues = {HostKeyring.TRUSTED, HostKeyring.CHANGED, HostKeyring.OTHER};
        for (int i = 0; i < keys.length; i++) {
            HostKeyring x = new HostKeyring();
            x.addLine(PLAIN, keys[i]);
            judged(x, "a line without patterns, key " + keys[i], 5, 0, 6, HostKeyring.NEW);
            x.addPattern(0, 5, 15, 0, false);
            judged(x, "it matches, key " + keys[i], 5, 0, 6, dues[i]);
            judged(x, "not this name, key " + keys[i], 4, 0, 6, HostKeyring.NEW);
            judged(x, "not this port, key " + keys[i], 5, 1, 6, HostKeyring.NEW);
            x.addPattern(0, 5, 8, 0, true);
            judged(x, "it is denied, key " + keys[i], 5, 0, 6, HostKeyring.NEW);
        }
    }

    private static void onlyPlainLinesTell() {
        int[] dues = {HostKeyring.TRUSTED, HostKeyring.REVOKED, HostKeyring.NEW};
        for (int mark = PLAIN; mark <= AUTHORITY; mark++) {
            HostKeyring x = new HostKeyring();
            add(x, mark, 6);
            judged(x, "the key, mark " + mark, 5, 0, 6, dues[mark]);
            judged(x, "its kind, mark " + mark, 5, 0, 9, mark == PLAIN ? HostKeyring.CHANGED : HostKeyring.NEW);
            judged(x, "another, mark " + mark, 5, 0, 7, mark == PLAIN ? HostKeyring.OTHER : HostKeyring.NEW);
        }
    }

    /** "From the day of its end on it has ended." */
    private static void linesTellUntilTheDayOfTheirEnd() {
        for (int end : new int[] {0, 1, 2, 1000}) {
            HostKeyring x = new HostKeyring();
            add(x, PLAIN, 6);
            x.turn(5, 0, 6, 9, end);
            x.remove(1);
            for (int day : new int[] {0, 1, 2, 3, 999, 1000, 1001}) {
                Books.passTo(x, day);
                String told = "end " + end + ", day " + day;
                judged(x, "the key, " + told, 5, 0, 6, day < end ? HostKeyring.TRUSTED : HostKeyring.NEW);
                judged(x, "its kind, " + told, 5, 0, 9, day < end ? HostKeyring.CHANGED : HostKeyring.NEW);
                judged(x, "another, " + told, 5, 0, 7, day < end ? HostKeyring.OTHER : HostKeyring.NEW);
            }
        }
    }

    /** "A key is 0 to 199; its kind is its number modulo 3." */
    private static void keysAreOfOneKindModuloThree() {
        int[] keys = {0, 1, 2, 3, 196, 197, 198, 199};
        for (int known : keys) {
            HostKeyring x = new HostKeyring();
            add(x, PLAIN, known);
            for (int key : keys) {
                int unequal = key % 3 == known % 3 ? HostKeyring.CHANGED : HostKeyring.OTHER;
                judged(x, "known " + known + ", key " + key, 5, 0, key, key == known ? HostKeyring.TRUSTED : unequal);
            }
        }
    }

    /** "is judged like this, the first that applies": all that apply, and then without the first of them */
    private static void theFirstJudgementThatAppliesStands() {
        for (int left = HostKeyring.REVOKED; left <= HostKeyring.NEW; left++) {
            HostKeyring x = new HostKeyring();
            x.certify(60, 6, 5, 15, 0, 0, 5000);
            int[] marks = {REVOKED_MARK, AUTHORITY, PLAIN, PLAIN, PLAIN};
            int[] keys = {6, 60, 6, 9, 7};
            for (int i = left; i < keys.length; i++) {
                add(x, marks[i], keys[i]);
            }
            CHECKS.same("with the certificate", x.judge(5, 0, 6, 0), left);
            judged(x, "without it", 5, 0, 6, left == HostKeyring.CERTIFIED ? HostKeyring.TRUSTED : left);
        }
    }

    /** Promise 15: "found by reading all lines in their order once": the 40th too */
    private static void theLastOfFortyLinesTells() {
        int[] marks = {REVOKED_MARK, PLAIN, PLAIN, PLAIN};
        int[] keys = {6, 6, 9, 7};
        int[] dues = {HostKeyring.REVOKED, HostKeyring.TRUSTED, HostKeyring.CHANGED, HostKeyring.OTHER};
        for (int i = 0; i < keys.length; i++) {
            HostKeyring x = new HostKeyring();
            Books.fillTo(x, 39);
            judged(x, "ahead of line 39", 5, 0, 6, HostKeyring.NEW);
            add(x, marks[i], keys[i]);
            judged(x, "by line 39", 5, 0, 6, dues[i]);
            x.remove(39);
            judged(x, "line 39 taken out", 5, 0, 6, HostKeyring.NEW);
        }
    }

    /** Promise 14: "certificate: a certificate, or NONE" */
    private static void noneStandsForNoCertificate() {
        HostKeyring x = new HostKeyring();
        judged(x, "no certificate in an empty book", 5, 0, 6, HostKeyring.NEW);
        CHECKS.noSuch("certificate 0 in an empty book", () -> x.judge(5, 0, 6, 0));
        add(x, AUTHORITY, 60);
        x.certify(60, 6, 5, 15, 0, 0, 5000);
        CHECKS.noSuch("certificate -2", () -> x.judge(5, 0, 6, -2));
        judged(x, "no certificate", 5, 0, 6, HostKeyring.NEW);
        CHECKS.same("the first", x.judge(5, 0, 6, 0), HostKeyring.CERTIFIED);
        CHECKS.noSuch("one behind the last", () -> x.judge(5, 0, 6, 1));
    }

    /** Promise 16, and "Days are numbered from 0." */
    private static void theDayGoesFromNoneToTheLast() {
        HostKeyring x = new HostKeyring();
        CHECKS.same("the first day", x.day(), 0);
        for (int day : new int[] {1, 1001, 2000, 3000, 4000, 4999, 5000}) {
            Books.passTo(x, day);
            CHECKS.same("the day", x.day(), day);
        }
        CHECKS.notNow("a day more", () -> x.pass(1));
        CHECKS.same("the last day", x.day(), 5000);
    }

    /** "what is so; nothing changes": every question is asked, of books that have something to lose */
    private static void questionsChangeNothing() {
        HostKeyring usual = Books.usual();
        askAll(usual);
        CHECKS.same("the usual book", Portrait.of(usual), Portrait.of(Books.usual()));
        HostKeyring accepting = new HostKeyring();
        accepting.setFirstSight(HostKeyring.ACCEPT, true);
        askAll(accepting);
        CHECKS.same("lines of a book that accepts", accepting.lines(), 0);
        CHECKS.same("what waits there", accepting.waiting(), NONE);
        HostKeyring asking = new HostKeyring();
        askAll(asking);
        CHECKS.same("a new book", Portrait.of(asking), Portrait.of(new HostKeyring()));
    }

    private static void askAll(HostKeyring x) {
        for (int key : new int[] {0, 6, 7, 9, 90, 199}) {
            x.judge(5, 0, key, NONE);
            x.judge(9999, 3, key, NONE);
            x.judgeByReading(5, 0, key);
            x.linesOf(key);
        }
        for (int line = 0; line < x.lines(); line++) {
            x.keyOf(line);
            x.seen(line);
            x.end(line);
            x.matches(line, 5, 0);
        }
        if (x.lines() > 0) {
            x.judge(5, 0, 70, 0);
            x.judge(5, 0, 71, 1);
        }
        x.find(5, 0);
        x.day();
        x.waiting();
    }
}
