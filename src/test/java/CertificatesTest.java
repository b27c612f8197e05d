/** Promises 6 and 7, and when a certificate is good. */
public final class CertificatesTest {
    private static final Checks CHECKS = new Checks("CertificatesTest");
    private static final int[] OUTSIDE = {-1, Integer.MIN_VALUE, Integer.MAX_VALUE};

    public static void main(String[] args) {
        certify();
        certifyRefuses();
        certificatesAreNoMoreThanTwenty();
        revokeSpan();
        revokeSpanRefuses();
        spansAreNoMoreThanTwenty();
        goodForNamesOnly();
        goodFromTheFirstDayToTheLast();
        goodOutsideRevokedSpans();
        goodWithAnAuthority();
        CHECKS.finish();
    }

    private static HostKeyring withAuthority(int key) {
        HostKeyring x = new HostKeyring();
        x.addLine(HostKeyring.AUTHORITY, key);
        for (int port = 0; port <= 3; port++) {
            x.addPattern(0, 0, 0, port, false);
        }
        return x;
    }

    private static void certify() {
        HostKeyring x = withAuthority(199);
        CHECKS.same("least arguments", x.certify(0, 0, 0, 0, 0, 0, 0), 0);
        CHECKS.same("greatest arguments", x.certify(199, 199, 9999, 15, 999, 5000, 5000), 1);
        CHECKS.same("an ordinary one", x.certify(199, 20, 1234, 5, 7, 0, 5000), 2);
        CHECKS.same("it is good", x.judge(1939, 2, 20, 2), HostKeyring.CERTIFIED);
        CHECKS.same("for its key only", x.judge(1939, 2, 21, 2), HostKeyring.NEW);
        CHECKS.same("certifying adds no line", x.lines(), 1);
    }

    private static void certifyRefuses() {
        HostKeyring x = new HostKeyring();
        CHECKS.outOfRange("authority 200", () -> x.certify(200, 0, 0, 0, 0, 0, 0));
        CHECKS.outOfRange("key 200", () -> x.certify(0, 200, 0, 0, 0, 0, 0));
        CHECKS.outOfRange("name 10000", () -> x.certify(0, 0, 10000, 0, 0, 0, 0));
        CHECKS.outOfRange("places 16", () -> x.certify(0, 0, 0, 16, 0, 0, 0));
        CHECKS.outOfRange("serial 1000", () -> x.certify(0, 0, 0, 0, 1000, 0, 0));
        CHECKS.outOfRange("first 5001", () -> x.certify(0, 0, 0, 0, 0, 5001, 5001));
        CHECKS.outOfRange("last 5001", () -> x.certify(0, 0, 0, 0, 0, 0, 5001));
        CHECKS.outOfRange("last ahead of first", () -> x.certify(0, 0, 0, 0, 0, 9, 8));
        for (int wrong : OUTSIDE) {
            CHECKS.outOfRange("authority " + wrong, () -> x.certify(wrong, 0, 0, 0, 0, 0, 0));
            CHECKS.outOfRange("key " + wrong, () -> x.certify(0, wrong, 0, 0, 0, 0, 0));
            CHECKS.outOfRange("name " + wrong, () -> x.certify(0, 0, wrong, 0, 0, 0, 0));
            CHECKS.outOfRange("places " + wrong, () -> x.certify(0, 0, 0, wrong, 0, 0, 0));
            CHECKS.outOfRange("serial " + wrong, () -> x.certify(0, 0, 0, 0, wrong, 0, 0));
            CHECKS.outOfRange("first " + wrong, () -> x.certify(0, 0, 0, 0, 0, wrong, 5000));
            CHECKS.outOfRange("last " + wrong, () -> x.certify(0, 0, 0, 0, 0, 0, wrong));
        }
        CHECKS.noSuch("refused certificates are not added", () -> x.judge(0, 0, 0, 0));
        CHECKS.same("the first number is still free", x.certify(0, 0, 0, 0, 0, 8, 8), 0);
    }

    private static void certificatesAreNoMoreThanTwenty() {
        HostKeyring x = withAuthority(5);
        for (int i = 0; i < 20; i++) {
            CHECKS.same("certificate " + i, x.certify(5, i, 0, 0, i, 0, 5000), i);
        }
        CHECKS.notNow("a certificate more", () -> x.certify(5, 20, 0, 0, 20, 0, 5000));
        CHECKS.outOfRange("one more with last ahead of first", () -> x.certify(5, 20, 0, 0, 20, 1, 0));
        CHECKS.noSuch("it was not added", () -> x.judge(0, 0, 20, 20));
        for (int i = 0; i < 20; i++) {
            CHECKS.same("certificate " + i + " stands", x.judge(0, 0, i, i), HostKeyring.CERTIFIED);
        }
    }

    private static void revokeSpan() {
        HostKeyring x = new HostKeyring();
        CHECKS.same("no certificates", x.revokeSpan(1, 0, 99), 0);
        x.certify(1, 10, 0, 0, 99, 0, 0);
        x.certify(1, 11, 0, 0, 100, 0, 0);
        x.certify(2, 12, 0, 0, 200, 0, 0);
        x.certify(1, 13, 0, 0, 200, 0, 0);
        x.certify(1, 14, 0, 0, 201, 0, 0);
        CHECKS.same("a span counts for certificates added behind it", x.revokeSpan(3, 0, 999), 1);
        CHECKS.same("from is included", x.revokeSpan(1, 100, 100), 2);
        CHECKS.same("to is included", x.revokeSpan(1, 150, 200), 3);
        CHECKS.same("a certificate in two spans counts once", x.revokeSpan(1, 100, 200), 3);
        CHECKS.same("those of all authorities are counted", x.revokeSpan(2, 0, 999), 4);
        CHECKS.same("all are revoked", x.revokeSpan(1, 999, 999), 4);
        CHECKS.same("all are revoked then", x.revokeSpan(1, 201, 201), 5);
    }

    private static void revokeSpanRefuses() {
        HostKeyring x = new HostKeyring();
        x.certify(0, 0, 0, 0, 5, 0, 0);
        CHECKS.outOfRange("authority 200", () -> x.revokeSpan(200, 0, 0));
        CHECKS.outOfRange("from 1000", () -> x.revokeSpan(0, 1000, 1000));
        CHECKS.outOfRange("to 1000", () -> x.revokeSpan(0, 0, 1000));
        CHECKS.outOfRange("to ahead of from", () -> x.revokeSpan(0, 6, 5));
        for (int wrong : OUTSIDE) {
            CHECKS.outOfRange("authority " + wrong, () -> x.revokeSpan(wrong, 0, 0));
            CHECKS.outOfRange("from " + wrong, () -> x.revokeSpan(0, wrong, 999));
            CHECKS.outOfRange("to " + wrong, () -> x.revokeSpan(0, 0, wrong));
        }
        CHECKS.same("refused spans are not revoked", x.revokeSpan(199, 999, 999), 0);
    }

    private static void spansAreNoMoreThanTwenty() {
        HostKeyring x = new HostKeyring();
        for (int i = 0; i < 20; i++) {
            x.certify(7, 0, 0, 0, i, 0, 0);
        }
        for (int i = 0; i < 20; i++) {
            CHECKS.same("span " + i, x.revokeSpan(i == 19 ? 8 : 7, i, i), i == 19 ? 19 : i + 1);
        }
        CHECKS.notNow("a span more", () -> x.revokeSpan(7, 19, 19));
        CHECKS.outOfRange("a span more, to ahead of from", () -> x.revokeSpan(7, 19, 18));
        x.addHashed(HostKeyring.AUTHORITY, 7, 1, 1, 1);
        CHECKS.same("a certificate in none of twenty", x.judge(1, 1, 0, 19), HostKeyring.CERTIFIED);
        CHECKS.same("a certificate in one of twenty", x.judge(1, 1, 0, 18), HostKeyring.NEW);
    }

    private static void goodForNamesOnly() {
        HostKeyring x = withAuthority(9);
        x.certify(9, 30, 1234, 6, 0, 0, 5000);
        CHECKS.same("its name", x.judge(1234, 0, 30, 0), HostKeyring.CERTIFIED);
        CHECKS.same("the same digits at its places, any port", x.judge(9239, 3, 30, 0), HostKeyring.CERTIFIED);
        CHECKS.same("another digit at place 1", x.judge(1334, 0, 30, 0), HostKeyring.NEW);
        CHECKS.same("another digit at place 2", x.judge(1244, 0, 30, 0), HostKeyring.NEW);
        CHECKS.same("without it", x.judge(1234, 0, 30, HostKeyring.NONE), HostKeyring.NEW);
    }

    private static void goodFromTheFirstDayToTheLast() {
        HostKeyring x = withAuthority(9);
        x.certify(9, 30, 0, 0, 0, 10, 12);
        x.certify(9, 30, 0, 0, 0, 11, 11);
        x.pass(9);
        CHECKS.same("ahead of the first day", x.judge(1, 1, 30, 0), HostKeyring.NEW);
        x.pass(1);
        CHECKS.same("on the first day", x.judge(1, 1, 30, 0), HostKeyring.CERTIFIED);
        CHECKS.same("a day ahead of the only one", x.judge(1, 1, 30, 1), HostKeyring.NEW);
        x.pass(1);
        CHECKS.same("on the only day", x.judge(1, 1, 30, 1), HostKeyring.CERTIFIED);
        x.pass(1);
        CHECKS.same("on the last day", x.judge(1, 1, 30, 0), HostKeyring.CERTIFIED);
        x.pass(1);
        CHECKS.same("behind the last day", x.judge(1, 1, 30, 0), HostKeyring.NEW);
    }

    private static void goodOutsideRevokedSpans() {
        HostKeyring x = withAuthority(9);
        x.certify(9, 30, 0, 0, 50, 0, 5000);
        x.revokeSpan(8, 0, 999);
        x.revokeSpan(9, 0, 49);
        x.revokeSpan(9, 51, 999);
        CHECKS.same("in no span", x.judge(1, 1, 30, 0), HostKeyring.CERTIFIED);
        x.revokeSpan(9, 50, 50);
        CHECKS.same("in a span", x.judge(1, 1, 30, 0), HostKeyring.NEW);
        x.certify(9, 30, 0, 0, 0, 0, 5000);
        CHECKS.same("a span revoked ahead of the certificate", x.judge(1, 1, 30, 1), HostKeyring.NEW);
    }

    private static void goodWithAnAuthority() {
        HostKeyring x = new HostKeyring();
        x.certify(9, 30, 0, 0, 0, 0, 5000);
        CHECKS.same("no lines", x.judge(1111, 1, 30, 0), HostKeyring.NEW);
        x.addLine(HostKeyring.AUTHORITY, 9);
        CHECKS.same("the authority matches nothing", x.judge(1111, 1, 30, 0), HostKeyring.NEW);
        x.addPattern(0, 1000, 1, 1, false);
        CHECKS.same("the authority matches", x.judge(1111, 1, 30, 0), HostKeyring.CERTIFIED);
        CHECKS.same("not at this port", x.judge(1111, 2, 30, 0), HostKeyring.NEW);
        CHECKS.same("not this name", x.judge(2111, 1, 30, 0), HostKeyring.NEW);
        x.addHashed(HostKeyring.AUTHORITY, 8, 2111, 1, 0);
        CHECKS.same("another authority", x.judge(2111, 1, 30, 0), HostKeyring.NEW);
        x.addHashed(HostKeyring.PLAIN, 9, 2111, 1, 0);
        CHECKS.same("a plain line is no authority", x.judge(2111, 1, 30, 0), HostKeyring.CHANGED);
        x.addHashed(HostKeyring.AUTHORITY, 9, 2111, 1, 0);
        CHECKS.same("a hashed authority", x.judge(2111, 1, 30, 0), HostKeyring.CERTIFIED);
        x.remove(3);
        CHECKS.same("an authority that was taken out", x.judge(2111, 1, 30, 0), HostKeyring.CHANGED);
        for (int i = 3; i < 40; i++) {
            x.addLine(HostKeyring.PLAIN, 1);
        }
        CHECKS.same("no authority in a full book", x.judge(2111, 1, 30, 0), HostKeyring.CHANGED);
    }
}
