/** Books that several tests start from, each made by fewer than 150 calls, so that Portrait may ask on. */
final class Books {
    static final int WAITING_NAME = 77;
    static final int WAITING_PORT = 2;

    /** Holds some of everything, and nothing of it as in a new book. */
    static HostKeyring usual() {
        HostKeyring x = new HostKeyring();
        x.addLine(HostKeyring.PLAIN, 6);
        for (int port = 0; port <= 3; port++) {
            x.addPattern(0, 0, 0, port, false);
        }
        x.addHashed(HostKeyring.PLAIN, 0, 5, 0, 1);
        x.addHashed(HostKeyring.PLAIN, 199, 5, 0, 2);
        x.addHashed(HostKeyring.REVOKED_MARK, 90, 5, 0, 3);
        x.addHashed(HostKeyring.AUTHORITY, 60, 5, 0, 4);
        x.certify(60, 70, 5, 15, 10, 0, 5000);
        x.certify(60, 71, 5, 15, 20, 0, 5000);
        x.revokeSpan(60, 20, 29);
        x.pass(3);
        x.turn(5, 0, 199, 196, 9);
        x.setFirstSight(HostKeyring.REFUSE, true);
        letWait(x);
        return x;
    }

    /** The usual one with 40 lines. */
    static HostKeyring full() {
        HostKeyring x = usual();
        fill(x);
        return x;
    }

    static HostKeyring fullWithNothingWaiting() {
        HostKeyring x = full();
        x.answer(5, 0, 6, HostKeyring.NONE);
        return x;
    }

    static HostKeyring withNothingWaiting() {
        HostKeyring x = usual();
        x.answer(5, 0, 6, HostKeyring.NONE);
        return x;
    }

    /** Three lines that take a pattern more. */
    static HostKeyring open() {
        HostKeyring x = new HostKeyring();
        addPatternedLines(x, 3);
        return x;
    }

    /** Three lines with four patterns. */
    static HostKeyring patterned() {
        HostKeyring x = new HostKeyring();
        addPatternedLines(x, 4);
        return x;
    }

    /** Three lines that are hashed. */
    static HostKeyring hashed() {
        HostKeyring x = new HostKeyring();
        for (int line = 0; line < 3; line++) {
            x.addHashed(HostKeyring.PLAIN, line, 5, 0, line);
        }
        return x;
    }

    /** The usual one with 20 certificates. */
    static HostKeyring certified() {
        HostKeyring x = usual();
        for (int number = 2; number < 20; number++) {
            x.certify(60, 70 + number, 5, 15, number, 0, 5000);
        }
        return x;
    }

    /** The usual one with 20 revoked spans. */
    static HostKeyring spanned() {
        HostKeyring x = usual();
        for (int count = 1; count < 20; count++) {
            x.revokeSpan(count, count, count);
        }
        return x;
    }

    /** The usual one with the keys 0, 7 and 199 revoked for all names and ports. */
    static HostKeyring revoked() {
        HostKeyring x = usual();
        for (int key : new int[] {0, 7, 199}) {
            int line = x.addLine(HostKeyring.REVOKED_MARK, key);
            for (int port = 0; port <= 3; port++) {
                x.addPattern(line, 0, 0, port, false);
            }
        }
        return x;
    }

    /** The usual one on the last day. */
    static HostKeyring late() {
        HostKeyring x = usual();
        passTo(x, 5000);
        return x;
    }

    static void fill(HostKeyring x) {
        fillTo(x, 40);
    }

    /** With lines that match nothing. */
    static void fillTo(HostKeyring x, int lines) {
        for (int line = x.lines(); line < lines; line++) {
            x.addLine(line % 3, line);
        }
    }

    static void passTo(HostKeyring x, int day) {
        for (int left = day - x.day(); left > 0; left -= 1000) {
            x.pass(Math.min(left, 1000));
        }
    }

    private static void letWait(HostKeyring x) {
        x.answer(WAITING_NAME, WAITING_PORT, 10, HostKeyring.NONE);
    }

    private static void addPatternedLines(HostKeyring x, int patterns) {
        for (int line = 0; line < 3; line++) {
            x.addLine(line, line);
            for (int port = 0; port < patterns; port++) {
                x.addPattern(line, 5, 15, port, false);
            }
        }
    }

    private Books() {
    }
}
