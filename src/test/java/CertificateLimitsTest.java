/**
 * The boundaries that the document names for certificates (its Terms, promises 6 and 7): each sentence has
 * a test of its own, with values on both sides. What is refused, and with which exception, is in
 * RefusalsTest.
 */
public final class CertificateLimitsTest {
    private static final Checks CHECKS = new Checks("CertificateLimitsTest");
    private static final int CERTIFIED = HostKeyring.CERTIFIED;
    private static final int NEW = HostKeyring.NEW;

    public static void main(String[] args) {
        thereAreAtMostTwentyCertificates();
        aCertificateIsForAKey();
        theDigitsAreTheSameAtAllPlaces();
        theDayIsNotAheadOfTheFirst();
        theDayIsNotBehindTheLast();
        firstAndLastMayBeTheSame();
        theSerialIsInNoSpan();
        spansAreOfOneAuthority();
        theAuthorityIsTheKeyOfALineWithItsMark();
        theAuthoritysLineMatches();
        revokeSpanCountsSerialsInTheSpan();
        revokeSpanCountsFromNoneToTwenty();
        revokeSpanCountsWhatWasRevokedBefore();
        thereAreAtMostTwentySpans();
        spansGoForCertificatesAddedLater();
        CHECKS.finish();
    }

    /** Authorities 0, 60 and 199 for all names and ports. */
    private static HostKeyring withAuthorities() {
        HostKeyring x = new HostKeyring();
        for (int key : new int[] {0, 60, 199}) {
            int line = x.addLine(HostKeyring.AUTHORITY, key);
            for (int port = 0; port <= 3; port++) {
                x.addPattern(line, 0, 0, port, false);
            }
        }
        return x;
    }

    private static void isGood(HostKeyring x, int certificate, int key, boolean isGood, String what) {
        CHECKS.same(what, x.judge(5, 0, key, certificate), isGood ? CERTIFIED : NEW);
    }

    /** "There are at most 20 certificates, numbered from 0." */
    private static void thereAreAtMostTwentyCertificates() {
        HostKeyring x = withAuthorities();
        for (int number = 0; number < 20; number++) {
            int next = number;
            CHECKS.noSuch("certificate " + number + " too early", () -> x.judge(5, 0, 100 + next, next));
            CHECKS.same("certificate", x.certify(60, 100 + number, 0, 0, 0, 0, 5000), number);
            isGood(x, number, 100 + number, true, "certificate " + number);
        }
        CHECKS.notNow("a 21st certificate", () -> x.certify(60, 120, 0, 0, 0, 0, 5000));
        CHECKS.noSuch("certificate 20", () -> x.judge(5, 0, 120, 20));
        isGood(x, 0, 100, true, "the first then");
        isGood(x, 19, 119, true, "the last then");
    }

    /** "One has an authority, which is a key, and is for a key": keys 0 to 199 */
    private static void aCertificateIsForAKey() {
        HostKeyring x = withAuthorities();
        int[] keys = {0, 1, 100, 198, 199};
        for (int i = 0; i < keys.length; i++) {
            x.certify(i % 2 == 0 ? 0 : 199, keys[i], 0, 0, 0, 0, 5000);
            for (int key : keys) {
                isGood(x, i, key, key == keys[i], "a certificate for " + keys[i] + " with key " + key);
            }
        }
    }

    /** "if the digits of both names are the same at all places of the set", for each set of places */
    private static void theDigitsAreTheSameAtAllPlaces() {
        int[] changed = {4555, 6555, 5455, 5655, 5545, 5565, 5554, 5556};
        for (int places = 0; places <= 15; places++) {
            HostKeyring x = withAuthorities();
            x.certify(60, 7, 5555, places, 0, 0, 5000);
            CHECKS.same("the name, places " + places, x.judge(5555, 1, 7, 0), CERTIFIED);
            for (int i = 0; i < changed.length; i++) {
                boolean isCompared = (places >> i / 2 & 1) == 1;
                CHECKS.same("name " + changed[i] + ", places " + places,
                        x.judge(changed[i], 3, 7, 0), isCompared ? NEW : CERTIFIED);
            }
        }
        HostKeyring x = withAuthorities();
        x.certify(60, 7, 0, 15, 0, 0, 5000);
        x.certify(60, 7, 9999, 15, 0, 0, 5000);
        CHECKS.same("0 is 0000", x.judge(0, 0, 7, 0), CERTIFIED);
        CHECKS.same("1 is not", x.judge(1, 0, 7, 0), NEW);
        CHECKS.same("1000 is not", x.judge(1000, 0, 7, 0), NEW);
        CHECKS.same("the last name", x.judge(9999, 0, 7, 1), CERTIFIED);
        CHECKS.same("the last but one", x.judge(9998, 0, 7, 1), NEW);
    }

    /** "the day is none ahead of the first" */
    private static void theDayIsNotAheadOfTheFirst() {
        HostKeyring x = withAuthorities();
        int[] firsts = {0, 1, 40, 5000};
        for (int first : firsts) {
            x.certify(60, 7, 0, 0, 0, first, 5000);
        }
        for (int day : new int[] {0, 1, 2, 39, 40, 41, 4999, 5000}) {
            Books.passTo(x, day);
            for (int i = 0; i < firsts.length; i++) {
                isGood(x, i, 7, day >= firsts[i], "first " + firsts[i] + " on day " + day);
            }
        }
    }

    /** "or behind the last day" */
    private static void theDayIsNotBehindTheLast() {
        HostKeyring x = withAuthorities();
        int[] lasts = {0, 1, 40, 4999, 5000};
        for (int last : lasts) {
            x.certify(60, 7, 0, 0, 0, 0, last);
        }
        for (int day : new int[] {0, 1, 2, 39, 40, 41, 4999, 5000}) {
            Books.passTo(x, day);
            for (int i = 0; i < lasts.length; i++) {
                isGood(x, i, 7, day <= lasts[i], "last " + lasts[i] + " on day " + day);
            }
        }
    }

    /** Promise 6: "last: first to 5000" */
    private static void firstAndLastMayBeTheSame() {
        HostKeyring x = withAuthorities();
        int[] days = {0, 40, 5000};
        for (int i = 0; i < days.length; i++) {
            int only = days[i];
            CHECKS.outOfRange("last ahead of first " + only, () -> x.certify(60, 7, 0, 0, 0, only, only - 1));
            CHECKS.same("only day " + only, x.certify(60, 7, 0, 0, 0, only, only), i);
        }
        for (int day : new int[] {0, 1, 39, 40, 41, 4999, 5000}) {
            Books.passTo(x, day);
            for (int i = 0; i < days.length; i++) {
                isGood(x, i, 7, day == days[i], "only day " + days[i] + " on day " + day);
            }
        }
        CHECKS.same("a certificate of days gone by", x.certify(60, 7, 0, 0, 0, 0, 4999), 3);
        isGood(x, 3, 7, false, "it is over");
    }

    /** "its serial is in no span that was revoked for its authority"; promise 7: "from to 999, included" */
    private static void theSerialIsInNoSpan() {
        int[][] spans = {{0, 0}, {0, 1}, {1, 1}, {500, 500}, {499, 501}, {998, 999}, {999, 999}, {0, 999}, {1, 998}};
        int[] serials = {0, 1, 2, 498, 499, 500, 501, 502, 997, 998, 999};
        for (int[] span : spans) {
            HostKeyring x = withAuthorities();
            int inside = 0;
            for (int i = 0; i < serials.length; i++) {
                x.certify(60, 7, 0, 0, serials[i], 0, 5000);
                isGood(x, i, 7, true, "serial " + serials[i] + " at first");
                inside += span[0] <= serials[i] && serials[i] <= span[1] ? 1 : 0;
            }
            String told = "span " + span[0] + " to " + span[1];
            CHECKS.same(told, x.revokeSpan(60, span[0], span[1]), inside);
            for (int i = 0; i < serials.length; i++) {
                boolean isInside = span[0] <= serials[i] && serials[i] <= span[1];
                isGood(x, i, 7, !isInside, "serial " + serials[i] + ", " + told);
            }
        }
    }

    /** "in no span that was revoked for its authority": the authorities beside it, the first and the last */
    private static void spansAreOfOneAuthority() {
        HostKeyring x = withAuthorities();
        x.certify(0, 7, 0, 0, 10, 0, 5000);
        x.certify(60, 7, 0, 0, 10, 0, 5000);
        x.certify(199, 7, 0, 0, 10, 0, 5000);
        for (int other : new int[] {1, 7, 59, 61, 198}) {
            CHECKS.same("of authority " + other, x.revokeSpan(other, 0, 999), 0);
        }
        int[] authorities = {0, 60, 199};
        for (int revoked = 0; revoked < 3; revoked++) {
            for (int i = 0; i < 3; i++) {
                isGood(x, i, 7, i >= revoked, "authority " + authorities[i] + ", " + revoked + " revoked");
            }
            CHECKS.same("of its authority", x.revokeSpan(authorities[revoked], 10, 10), revoked + 1);
        }
        isGood(x, 2, 7, false, "the last of three");
    }

    /** "a line with the mark AUTHORITY and the authority as its key" */
    private static void theAuthorityIsTheKeyOfALineWithItsMark() {
        HostKeyring x = new HostKeyring();
        x.certify(60, 7, 0, 0, 0, 0, 5000);
        x.addHashed(HostKeyring.AUTHORITY, 59, 5, 0, 0);
        x.addHashed(HostKeyring.AUTHORITY, 61, 5, 0, 0);
        x.addHashed(HostKeyring.AUTHORITY, 7, 5, 0, 0);
        isGood(x, 0, 7, false, "authorities with other keys");
        x.addHashed(HostKeyring.PLAIN, 60, 5, 0, 0);
        CHECKS.same("a plain line with the key", x.judge(5, 0, 7, 0), HostKeyring.OTHER);
        Books.fillTo(x, 39);
        x.addHashed(HostKeyring.AUTHORITY, 60, 5, 0, 0);
        CHECKS.same("an authority with the key in line 39", x.judge(5, 0, 7, 0), CERTIFIED);
        x.remove(39);
        CHECKS.same("without it", x.judge(5, 0, 7, 0), HostKeyring.OTHER);
    }

    /** "matches the name and the port" */
    private static void theAuthoritysLineMatches() {
        HostKeyring x = new HostKeyring();
        x.certify(60, 7, 0, 0, 0, 0, 5000);
        int line = x.addLine(HostKeyring.AUTHORITY, 60);
        isGood(x, 0, 7, false, "an authority without patterns");
        x.addPattern(line, 4, 15, 0, false);
        x.addPattern(line, 5, 15, 1, false);
        isGood(x, 0, 7, false, "an authority for another name and another port");
        x.addPattern(line, 5, 15, 0, false);
        isGood(x, 0, 7, true, "an authority for both");
        x.addPattern(line, 5, 8, 0, true);
        isGood(x, 0, 7, false, "an authority for which both are denied");
        CHECKS.same("the name beside it", x.judge(4, 0, 7, 0), CERTIFIED);
    }

    /** "Returns how many certificates have a serial in a span that was revoked for their authority then." */
    private static void revokeSpanCountsSerialsInTheSpan() {
        HostKeyring x = new HostKeyring();
        for (int serial = 39; serial <= 61; serial += 2) {
            x.certify(60, 7, 0, 0, serial, 0, 0);
        }
        CHECKS.same("behind 39, ahead of 41", x.revokeSpan(60, 40, 40), 0);
        CHECKS.same("from 41", x.revokeSpan(60, 41, 42), 1);
        CHECKS.same("to 45", x.revokeSpan(60, 44, 45), 2);
        CHECKS.same("ahead of 49 to behind 51", x.revokeSpan(60, 48, 52), 4);
        CHECKS.same("on both its bounds", x.revokeSpan(60, 55, 59), 7);
        CHECKS.same("across spans of before", x.revokeSpan(60, 40, 60), 10);
        CHECKS.same("all serials", x.revokeSpan(60, 0, 999), 12);
    }

    private static void revokeSpanCountsFromNoneToTwenty() {
        HostKeyring x = new HostKeyring();
        CHECKS.same("of no certificates", x.revokeSpan(60, 0, 999), 0);
        for (int i = 0; i < 20; i++) {
            x.certify(i % 2 == 0 ? 0 : 199, 7, 0, 0, i % 2 == 0 ? 0 : 999, 0, 0);
        }
        CHECKS.same("of none of twenty", x.revokeSpan(1, 0, 999), 0);
        CHECKS.same("of serials between", x.revokeSpan(0, 1, 999), 0);
        CHECKS.same("of half of them", x.revokeSpan(0, 0, 0), 10);
        CHECKS.same("of serials between, the other half", x.revokeSpan(199, 0, 998), 10);
        CHECKS.same("of all of them", x.revokeSpan(199, 999, 999), 20);
        CHECKS.same("of all of them again", x.revokeSpan(199, 999, 999), 20);
    }

    /** "in a span that was revoked for their authority then": earlier spans, and those of other authorities */
    private static void revokeSpanCountsWhatWasRevokedBefore() {
        HostKeyring x = new HostKeyring();
        x.certify(60, 7, 0, 0, 10, 0, 0);
        x.certify(61, 7, 0, 0, 20, 0, 0);
        CHECKS.same("the second's serial for the first", x.revokeSpan(60, 20, 20), 0);
        CHECKS.same("the first's serial for the second", x.revokeSpan(61, 10, 10), 0);
        CHECKS.same("the first", x.revokeSpan(60, 10, 10), 1);
        CHECKS.same("a span of neither", x.revokeSpan(62, 0, 0), 1);
        CHECKS.same("the second", x.revokeSpan(61, 20, 20), 2);
    }

    /** Promise 7: "IllegalStateException if 20 spans were revoked" */
    private static void thereAreAtMostTwentySpans() {
        HostKeyring x = withAuthorities();
        x.certify(60, 7, 0, 0, 19, 0, 5000);
        x.certify(60, 7, 0, 0, 20, 0, 5000);
        for (int serial = 0; serial < 19; serial++) {
            CHECKS.same("span " + serial, x.revokeSpan(60, 0, serial), 0);
        }
        isGood(x, 0, 7, true, "ahead of the 20th span");
        CHECKS.same("the 20th span", x.revokeSpan(60, 19, 19), 1);
        CHECKS.notNow("a 21st span", () -> x.revokeSpan(60, 20, 20));
        CHECKS.notNow("a 21st span that is like the first", () -> x.revokeSpan(60, 0, 0));
        isGood(x, 0, 7, false, "in the 20th span");
        isGood(x, 1, 7, true, "in the 21st");
    }

    private static void spansGoForCertificatesAddedLater() {
        HostKeyring x = withAuthorities();
        x.revokeSpan(60, 10, 20);
        for (int serial : new int[] {9, 10, 20, 21}) {
            int number = x.certify(60, 7, 0, 0, serial, 0, 5000);
            isGood(x, number, 7, serial == 9 || serial == 21, "serial " + serial + " added later");
        }
        CHECKS.same("they are counted", x.revokeSpan(61, 0, 0), 2);
    }
}
