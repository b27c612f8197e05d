/** A book of keys of computers; ../shared/DOC.md tells what each call promises. */
public final class HostKeyring {
    public static final int NONE = -1;
    public static final int PLAIN = 0, REVOKED_MARK = 1, AUTHORITY = 2;
    public static final int REVOKED = 0, CERTIFIED = 1, TRUSTED = 2, CHANGED = 3, OTHER = 4, NEW = 5;
    public static final int ACCEPT = 0, ASK = 1, REFUSE = 2;

    private static final int MOST_LINES = 40;
    private static final int MOST_PATTERNS = 4;
    private static final int MOST_CERTIFICATES = 20;
    private static final int MOST_SPANS = 20;
    private static final int LAST_NAME = 9999;
    private static final int LAST_PLACE = 3;
    private static final int ALL_PLACES = 15;
    private static final int LAST_PORT = 3;
    private static final int LAST_KEY = 199;
    private static final int LAST_SALT = 99;
    private static final int LAST_SERIAL = 999;
    private static final int LAST_DAY = 5000;
    private static final int MOST_DAYS = 1000;

    /** The first lineCount are the lines; the others are spare, so that no call has to make a line. */
    private final Line[] book = new Line[MOST_LINES];
    private int lineCount;
    private final Certificate[] certificates = new Certificate[MOST_CERTIFICATES];
    private int certificateCount;
    private final Span[] spans = new Span[MOST_SPANS];
    private int spanCount;
    private int day;
    private int firstSight = ASK;
    private boolean isHashing;
    private int waitingName;
    private int waitingPort;
    private int waitingKey = NONE;

    public HostKeyring() {
        for (int i = 0; i < MOST_LINES; i++) {
            book[i] = new Line();
        }
    }

    // ---- lines

    public int addLine(int mark, int key) throws IllegalArgumentException, IllegalStateException {
        requireWithin(mark, PLAIN, AUTHORITY);
        requireKey(key);
        appendLine(mark, key);
        return lineCount - 1;
    }

    public int addPattern(int line, int name, int places, int port, boolean isDenied)
            throws IndexOutOfBoundsException, IllegalArgumentException, IllegalStateException {
        Line widened = lineAt(line);
        requireNameAndPort(name, port);
        requireWithin(places, 0, ALL_PLACES);
        return widened.takePattern(name, places, port, isDenied);
    }

    public int addHashed(int mark, int key, int name, int port, int salt)
            throws IllegalArgumentException, IllegalStateException {
        requireWithin(mark, PLAIN, AUTHORITY);
        requireKey(key);
        requireNameAndPort(name, port);
        requireWithin(salt, 0, LAST_SALT);
        appendLine(mark, key).takeHash(name, port, salt);
        return lineCount - 1;
    }

    public int remove(int line) throws IndexOutOfBoundsException {
        int key = lineAt(line).key;
        takeOut(line);
        return key;
    }

    // ---- certificates

    public int certify(int authority, int key, int name, int places, int serial, int first, int last)
            throws IllegalArgumentException, IllegalStateException {
        requireKey(authority);
        requireKey(key);
        requireWithin(name, 0, LAST_NAME);
        requireWithin(places, 0, ALL_PLACES);
        requireWithin(serial, 0, LAST_SERIAL);
        requireWithin(first, 0, LAST_DAY);
        requireWithin(last, first, LAST_DAY);
        if (certificateCount >= MOST_CERTIFICATES) {
            throw new IllegalStateException("there are as many certificates as may be");
        }
        certificates[certificateCount] = new Certificate(authority, key, name, places, serial, first, last);
        certificateCount++;
        return certificateCount - 1;
    }

    public int revokeSpan(int authority, int from, int to)
            throws IllegalArgumentException, IllegalStateException {
        requireKey(authority);
        requireWithin(from, 0, LAST_SERIAL);
        requireWithin(to, from, LAST_SERIAL);
        if (spanCount >= MOST_SPANS) {
            throw new IllegalStateException("as many spans were revoked as may be");
        }
        spans[spanCount] = new Span(authority, from, to);
        spanCount++;
        return countRevokedCertificates();
    }

    // ---- answers

    public int setFirstSight(int rule, boolean isHashed) throws IllegalArgumentException {
        requireWithin(rule, ACCEPT, REFUSE);
        int before = firstSight;
        firstSight = rule;
        isHashing = isHashed;
        return before;
    }

    public int answer(int name, int port, int key, int certificate)
            throws IndexOutOfBoundsException, IllegalArgumentException {
        Certificate shown = certificateAt(certificate);
        requireNameAndPort(name, port);
        requireKey(key);
        int judgement = judgementOf(name, port, key, shown);
        waitingKey = NONE;
        if (judgement == CERTIFIED || judgement == TRUSTED) {
            seeToday(name, port, key, authorityOf(shown));
        } else if (judgement == OTHER || judgement == NEW && firstSight == ASK) {
            letWait(name, port, key);
        } else if (judgement == NEW && firstSight == ACCEPT && lineCount < MOST_LINES) {
            appendSighted(name, port, key);
        }
        return judgement;
    }

    public int confirm() throws IllegalStateException {
        if (waitingKey == NONE) {
            throw new IllegalStateException("nothing waits");
        }
        appendSighted(waitingName, waitingPort, waitingKey);
        waitingKey = NONE;
        return lineCount - 1;
    }

    public int turn(int name, int port, int old, int other, int days)
            throws IllegalArgumentException, IllegalStateException {
        requireNameAndPort(name, port);
        requireKey(old);
        requireKey(other);
        requireWithin(days, 0, MOST_DAYS);
        if (old == other) {
            throw new IllegalArgumentException("both keys are the same");
        }
        if (judgementByLines(name, port, old, NONE) != TRUSTED) {
            throw new IllegalStateException("the old key is not trusted");
        }
        if (judgementByLines(name, port, other, NONE) == REVOKED) {
            throw new IllegalStateException("the new key is revoked");
        }
        return turnLines(name, port, old, other, days);
    }

    public int pass(int days) throws IllegalArgumentException, IllegalStateException {
        requireWithin(days, 1, MOST_DAYS);
        if (day + days > LAST_DAY) {
            throw new IllegalStateException("it would be behind the last day");
        }
        day += days;
        return day;
    }

    public int clean(int days) throws IllegalArgumentException {
        requireWithin(days, 1, LAST_DAY);
        int taken = 0;
        // From behind, so that the numbers of the lines still to be looked at stay as they are.
        for (int i = lineCount - 1; i >= 0; i--) {
            if (isToBeCleaned(book[i], days)) {
                takeOut(i);
                taken++;
            }
        }
        return taken;
    }

    // ---- what is so; nothing changes

    public int judge(int name, int port, int key, int certificate)
            throws IndexOutOfBoundsException, IllegalArgumentException {
        Certificate shown = certificateAt(certificate);
        requireNameAndPort(name, port);
        requireKey(key);
        return judgementOf(name, port, key, shown);
    }

    public int judgeByReading(int name, int port, int key) throws IllegalArgumentException {
        requireNameAndPort(name, port);
        requireKey(key);
        return judgementByLines(name, port, key, NONE);
    }

    public int day() {
        return day;
    }

    public int lines() {
        return lineCount;
    }

    public int keyOf(int line) throws IndexOutOfBoundsException {
        Line told = lineAt(line);
        return 1000 * told.mark + told.key;
    }

    public int seen(int line) throws IndexOutOfBoundsException {
        return lineAt(line).seen;
    }

    public int end(int line) throws IndexOutOfBoundsException {
        return lineAt(line).end;
    }

    public boolean matches(int line, int name, int port)
            throws IndexOutOfBoundsException, IllegalArgumentException {
        Line asked = lineAt(line);
        requireNameAndPort(name, port);
        return asked.covers(name, port);
    }

    public int find(int name, int port) throws IllegalArgumentException {
        requireNameAndPort(name, port);
        for (int i = 0; i < lineCount; i++) {
            if (book[i].covers(name, port)) {
                return i;
            }
        }
        return NONE;
    }

    public long linesOf(int key) throws IllegalArgumentException {
        requireKey(key);
        long set = 0;
        for (int i = 0; i < lineCount; i++) {
            if (book[i].key == key) {
                set |= 1L << i;
            }
        }
        return set;
    }

    public int waiting() {
        return waitingKey;
    }

    // What the calls are made of: looking at arguments.

    private static void requireWithin(int value, int least, int most) {
        if (value < least || value > most) {
            throw new IllegalArgumentException("an argument is out of range");
        }
    }

    private static void requireKey(int key) {
        requireWithin(key, 0, LAST_KEY);
    }

    private static void requireNameAndPort(int name, int port) {
        requireWithin(name, 0, LAST_NAME);
        requireWithin(port, 0, LAST_PORT);
    }

    private Line lineAt(int number) {
        if (number < 0 || number >= lineCount) {
            throw new IndexOutOfBoundsException("there is no such line");
        }
        return book[number];
    }

    /** Null stands for no certificate. */
    private Certificate certificateAt(int number) {
        if (number == NONE) {
            return null;
        }
        if (number < 0 || number >= certificateCount) {
            throw new IndexOutOfBoundsException("there is no such certificate");
        }
        return certificates[number];
    }

    // Changing the book.

    private Line appendLine(int mark, int key) {
        if (lineCount >= MOST_LINES) {
            throw new IllegalStateException("there are as many lines as may be");
        }
        Line line = book[lineCount];
        lineCount++;
        line.begin(mark, key, day);
        return line;
    }

    private void appendSighted(int name, int port, int key) {
        Line line = appendLine(PLAIN, key);
        if (isHashing) {
            line.takeHash(name, port, (7 * name + key) % 100);
        } else {
            line.takePattern(name, ALL_PLACES, port, false);
        }
    }

    private void takeOut(int number) {
        Line spare = book[number];
        for (int i = number + 1; i < lineCount; i++) {
            book[i - 1] = book[i];
        }
        lineCount--;
        book[lineCount] = spare;
    }

    private int turnLines(int name, int port, int old, int other, int days) {
        int before = lineCount;
        for (int i = 0; i < before && lineCount < MOST_LINES; i++) {
            Line line = book[i];
            if (isLivePlain(line) && line.key == old && line.covers(name, port)) {
                appendLine(PLAIN, other).takeMatching(line);
                line.endBy(day + days);
            }
        }
        return lineCount - before;
    }

    private boolean isToBeCleaned(Line line, int days) {
        return line.mark == PLAIN && (line.hasEnded(day) || day - line.seen >= days);
    }

    private void seeToday(int name, int port, int key, int authority) {
        for (int i = 0; i < lineCount; i++) {
            Line line = book[i];
            if (line.mark != REVOKED_MARK && !line.hasEnded(day)
                    && line.hasEither(key, authority) && line.covers(name, port)) {
                line.seen = day;
            }
        }
    }

    private void letWait(int name, int port, int key) {
        waitingName = name;
        waitingPort = port;
        waitingKey = key;
    }

    // Judging.

    private int judgementOf(int name, int port, int key, Certificate shown) {
        int byLines = judgementByLines(name, port, key, authorityOf(shown));
        if (byLines != REVOKED && shown != null && shown.key == key && isGood(shown, name, port)) {
            return CERTIFIED;
        }
        return byLines;
    }

    /** Reads all lines once: a judgement that goes first has the smaller number, so the smallest stands. */
    private int judgementByLines(int name, int port, int key, int authority) {
        int judgement = NEW;
        for (int i = 0; i < lineCount; i++) {
            if (book[i].covers(name, port)) {
                judgement = Math.min(judgement, judgementByMatch(book[i], key, authority));
            }
        }
        return judgement;
    }

    private int judgementByMatch(Line line, int key, int authority) {
        if (line.mark == REVOKED_MARK && line.hasEither(key, authority)) {
            return REVOKED;
        }
        if (!isLivePlain(line)) {
            return NEW;
        }
        if (line.key == key) {
            return TRUSTED;
        }
        return kindOf(line.key) == kindOf(key) ? CHANGED : OTHER;
    }

    private boolean isLivePlain(Line line) {
        return line.mark == PLAIN && !line.hasEnded(day);
    }

    private static int kindOf(int key) {
        return key % 3;
    }

    /** NONE, which is no line's key, where there is no certificate. */
    private static int authorityOf(Certificate shown) {
        return shown == null ? NONE : shown.authority;
    }

    private boolean isGood(Certificate shown, int name, int port) {
        return isSameAt(shown.places, shown.name, name)
                && day >= shown.first && day <= shown.last
                && !isInRevokedSpan(shown)
                && hasAuthority(shown.authority, name, port);
    }

    private boolean hasAuthority(int authority, int name, int port) {
        for (int i = 0; i < lineCount; i++) {
            Line line = book[i];
            if (line.mark == AUTHORITY && line.key == authority
                    && !line.hasEnded(day) && line.covers(name, port)) {
                return true;
            }
        }
        return false;
    }

    private boolean isInRevokedSpan(Certificate certificate) {
        for (int i = 0; i < spanCount; i++) {
            if (spans[i].holds(certificate.authority, certificate.serial)) {
                return true;
            }
        }
        return false;
    }

    private int countRevokedCertificates() {
        int revoked = 0;
        for (int i = 0; i < certificateCount; i++) {
            if (isInRevokedSpan(certificates[i])) {
                revoked++;
            }
        }
        return revoked;
    }

    /** Goes from the last place to the first, because the last digit is the one at hand. */
    private static boolean isSameAt(int places, int oneName, int otherName) {
        int one = oneName;
        int other = otherName;
        for (int place = LAST_PLACE; place >= 0; place--) {
            boolean isCompared = (places >> place & 1) == 1;
            if (isCompared && one % 10 != other % 10) {
                return false;
            }
            one /= 10;
            other /= 10;
        }
        return true;
    }

    /** Used again after it was taken out of the book, so begin() must leave nothing of its last use. */
    private static final class Line {
        private int mark;
        private int key;
        private int seen;
        private int end;
        /** The patterns never change, so that lines may share them. */
        private final Pattern[] patterns = new Pattern[MOST_PATTERNS];
        private int patternCount;
        private boolean isHashed;
        private int hash;
        private int hashSalt;
        private int hashPort;

        void begin(int newMark, int newKey, int today) {
            mark = newMark;
            key = newKey;
            seen = today;
            end = NONE;
            patternCount = 0;
            isHashed = false;
        }

        int takePattern(int name, int places, int port, boolean isDenied) {
            if (isHashed || patternCount >= MOST_PATTERNS) {
                throw new IllegalStateException("the line takes no more patterns");
            }
            patterns[patternCount] = new Pattern(name, places, port, isDenied);
            patternCount++;
            return patternCount;
        }

        void takeHash(int name, int port, int salt) {
            isHashed = true;
            hash = hashOf(name, salt);
            hashSalt = salt;
            hashPort = port;
        }

        void takeMatching(Line model) {
            patternCount = model.patternCount;
            for (int i = 0; i < patternCount; i++) {
                patterns[i] = model.patterns[i];
            }
            isHashed = model.isHashed;
            hash = model.hash;
            hashSalt = model.hashSalt;
            hashPort = model.hashPort;
        }

        void endBy(int lastEnd) {
            if (end == NONE || end > lastEnd) {
                end = lastEnd;
            }
        }

        boolean hasEnded(int today) {
            return end != NONE && today >= end;
        }

        boolean hasEither(int oneKey, int otherKey) {
            return key == oneKey || key == otherKey;
        }

        boolean covers(int name, int port) {
            if (isHashed) {
                return port == hashPort && hashOf(name, hashSalt) == hash;
            }
            boolean isCovered = false;
            for (int i = 0; i < patternCount; i++) {
                Pattern pattern = patterns[i];
                if (pattern.fits(name, port)) {
                    if (pattern.isDenied) {
                        return false;
                    }
                    isCovered = true;
                }
            }
            return isCovered;
        }

        private static int hashOf(int name, int salt) {
            return (31 * name + 17 * salt + 5) % 499;
        }
    }

    private static final class Pattern {
        private final int name;
        private final int places;
        private final int port;
        private final boolean isDenied;

        Pattern(int name, int places, int port, boolean isDenied) {
            this.name = name;
            this.places = places;
            this.port = port;
            this.isDenied = isDenied;
        }

        boolean fits(int askedName, int askedPort) {
            return port == askedPort && isSameAt(places, name, askedName);
        }
    }

    private static final class Certificate {
        private final int authority;
        private final int key;
        private final int name;
        private final int places;
        private final int serial;
        private final int first;
        private final int last;

        Certificate(int authority, int key, int name, int places, int serial, int first, int last) {
            this.authority = authority;
            this.key = key;
            this.name = name;
            this.places = places;
            this.serial = serial;
            this.first = first;
            this.last = last;
        }
    }

    private static final class Span {
        private final int authority;
        private final int from;
        private final int to;

        Span(int authority, int from, int to) {
            this.authority = authority;
            this.from = from;
            this.to = to;
        }

        boolean holds(int askedAuthority, int serial) {
            return authority == askedAuthority && serial >= from && serial <= to;
        }
    }
}
