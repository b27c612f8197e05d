import java.util.ArrayList;
import java.util.List;

/** A second reading of the document, word by word and without care for speed, to compare with. */
final class Model {
    private static final class Pattern {
        int name;
        int places;
        int port;
        boolean isDenied;
    }

    private static final class Line {
        int mark;
        int key;
        int seen;
        Integer end;
        List<Pattern> patterns = new ArrayList<>();
        int[] saltHashPort;
    }

    private static final class Certificate {
        int authority;
        int key;
        int name;
        int places;
        int serial;
        int first;
        int last;
    }

    private final List<Line> book = new ArrayList<>();
    private final List<Certificate> certificates = new ArrayList<>();
    private final List<int[]> spans = new ArrayList<>();
    private int today = 0;
    private int rule = 1;
    private boolean hashes = false;
    private int[] waits = null;

    private static void in(int value, int least, int most) {
        if (!(least <= value && value <= most)) {
            throw new IllegalArgumentException();
        }
    }

    private static void can(boolean isSo) {
        if (!isSo) {
            throw new IllegalStateException();
        }
    }

    private Line line(int number) {
        if (!(0 <= number && number < book.size())) {
            throw new IndexOutOfBoundsException();
        }
        return book.get(number);
    }

    private Certificate certificate(int number) {
        if (number == -1) {
            return null;
        }
        if (!(0 <= number && number < certificates.size())) {
            throw new IndexOutOfBoundsException();
        }
        return certificates.get(number);
    }

    private static int digit(int name, int place) {
        int[] weights = {1000, 100, 10, 1};
        return name / weights[place] % 10;
    }

    private static boolean same(int places, int a, int b) {
        boolean same = true;
        for (int place = 0; place < 4; place++) {
            boolean isInSet = places / (int) Math.pow(2, place) % 2 == 1;
            same = same && (!isInSet || digit(a, place) == digit(b, place));
        }
        return same;
    }

    private static int hash(int name, int salt) {
        return (31 * name + 17 * salt + 5) % 499;
    }

    private static boolean fits(Line line, int name, int port, boolean isDenied) {
        return line.patterns.stream().anyMatch(
                p -> p.isDenied == isDenied && p.port == port && same(p.places, p.name, name));
    }

    private static boolean match(Line line, int name, int port) {
        if (line.saltHashPort != null) {
            return line.saltHashPort[2] == port && hash(name, line.saltHashPort[0]) == line.saltHashPort[1];
        }
        return fits(line, name, port, false) && !fits(line, name, port, true);
    }

    private boolean ended(Line line) {
        return line.end != null && line.end <= today;
    }

    private boolean revoked(Certificate c) {
        return spans.stream().anyMatch(s -> s[0] == c.authority && s[1] <= c.serial && c.serial <= s[2]);
    }

    private boolean good(Certificate c, int name, int port) {
        boolean hasLine = book.stream().anyMatch(
                l -> l.mark == 2 && l.key == c.authority && !ended(l) && match(l, name, port));
        return hasLine && same(c.places, c.name, name) && !(today < c.first) && !(today > c.last) && !revoked(c);
    }

    private int judgement(int name, int port, int key, Certificate c) {
        List<Line> matching = book.stream().filter(l -> match(l, name, port)).toList();
        if (matching.stream().anyMatch(l -> l.mark == 1 && (l.key == key || c != null && c.authority == l.key))) {
            return 0;
        }
        if (c != null && c.key == key && good(c, name, port)) {
            return 1;
        }
        List<Line> plain = matching.stream().filter(l -> l.mark == 0 && !ended(l)).toList();
        if (plain.stream().anyMatch(l -> l.key == key)) {
            return 2;
        }
        if (plain.stream().anyMatch(l -> l.key % 3 == key % 3)) {
            return 3;
        }
        return plain.isEmpty() ? 5 : 4;
    }

    private Line newLine(int mark, int key) {
        Line line = new Line();
        line.mark = mark;
        line.key = key;
        line.seen = today;
        return line;
    }

    private void addSighted(int name, int port, int key) {
        Line line = newLine(0, key);
        if (hashes) {
            int salt = (7 * name + key) % 100;
            line.saltHashPort = new int[] {salt, hash(name, salt), port};
        } else {
            line.patterns.add(pattern(name, 15, port, false));
        }
        book.add(line);
    }

    private static Pattern pattern(int name, int places, int port, boolean isDenied) {
        Pattern pattern = new Pattern();
        pattern.name = name;
        pattern.places = places;
        pattern.port = port;
        pattern.isDenied = isDenied;
        return pattern;
    }

    int addLine(int mark, int key) {
        in(mark, 0, 2);
        in(key, 0, 199);
        can(book.size() < 40);
        book.add(newLine(mark, key));
        return book.size() - 1;
    }

    int addPattern(int line, int name, int places, int port, boolean isDenied) {
        Line l = line(line);
        in(name, 0, 9999);
        in(places, 0, 15);
        in(port, 0, 3);
        can(l.saltHashPort == null && l.patterns.size() < 4);
        l.patterns.add(pattern(name, places, port, isDenied));
        return l.patterns.size();
    }

    int addHashed(int mark, int key, int name, int port, int salt) {
        in(mark, 0, 2);
        in(key, 0, 199);
        in(name, 0, 9999);
        in(port, 0, 3);
        in(salt, 0, 99);
        can(book.size() < 40);
        Line line = newLine(mark, key);
        line.saltHashPort = new int[] {salt, hash(name, salt), port};
        book.add(line);
        return book.size() - 1;
    }

    int remove(int line) {
        Line l = line(line);
        book.remove(line);
        return l.key;
    }

    int certify(int authority, int key, int name, int places, int serial, int first, int last) {
        in(authority, 0, 199);
        in(key, 0, 199);
        in(name, 0, 9999);
        in(places, 0, 15);
        in(serial, 0, 999);
        in(first, 0, 5000);
        in(last, first, 5000);
        can(certificates.size() < 20);
        Certificate c = new Certificate();
        c.authority = authority;
        c.key = key;
        c.name = name;
        c.places = places;
        c.serial = serial;
        c.first = first;
        c.last = last;
        certificates.add(c);
        return certificates.size() - 1;
    }

    int revokeSpan(int authority, int from, int to) {
        in(authority, 0, 199);
        in(from, 0, 999);
        in(to, from, 999);
        can(spans.size() < 20);
        spans.add(new int[] {authority, from, to});
        return (int) certificates.stream().filter(this::revoked).count();
    }

    int setFirstSight(int newRule, boolean isHashed) {
        in(newRule, 0, 2);
        int before = rule;
        rule = newRule;
        hashes = isHashed;
        return before;
    }

    int answer(int name, int port, int key, int certificate) {
        int judgement = judge(name, port, key, certificate);
        Certificate c = certificate(certificate);
        waits = null;
        if (judgement == 1 || judgement == 2) {
            for (Line l : book) {
                boolean isMeant = l.key == key || c != null && l.key == c.authority;
                if (l.mark != 1 && !ended(l) && match(l, name, port) && isMeant) {
                    l.seen = today;
                }
            }
        }
        if (judgement == 5 && rule == 0 && book.size() < 40) {
            addSighted(name, port, key);
        }
        if (judgement == 5 && rule == 1 || judgement == 4) {
            waits = new int[] {name, port, key};
        }
        return judgement;
    }

    int confirm() {
        can(waits != null && book.size() < 40);
        addSighted(waits[0], waits[1], waits[2]);
        waits = null;
        return book.size() - 1;
    }

    int turn(int name, int port, int old, int other, int days) {
        in(name, 0, 9999);
        in(port, 0, 3);
        in(old, 0, 199);
        in(other, 0, 199);
        in(days, 0, 1000);
        in(old == other ? 1 : 0, 0, 0);
        can(judgement(name, port, old, null) == 2);
        can(judgement(name, port, other, null) != 0);
        List<Line> turned = book.stream().filter(
                l -> l.mark == 0 && !ended(l) && match(l, name, port) && l.key == old).toList();
        int added = 0;
        for (Line l : turned) {
            if (book.size() < 40) {
                Line line = newLine(0, other);
                line.patterns.addAll(l.patterns);
                line.saltHashPort = l.saltHashPort;
                book.add(line);
                l.end = l.end == null ? today + days : Math.min(l.end, today + days);
                added++;
            }
        }
        return added;
    }

    int pass(int days) {
        in(days, 1, 1000);
        can(today + days <= 5000);
        today += days;
        return today;
    }

    int clean(int days) {
        in(days, 1, 5000);
        int before = book.size();
        book.removeIf(l -> l.mark == 0 && (ended(l) || today - l.seen >= days));
        return before - book.size();
    }

    int judge(int name, int port, int key, int certificate) {
        Certificate c = certificate(certificate);
        in(name, 0, 9999);
        in(port, 0, 3);
        in(key, 0, 199);
        return judgement(name, port, key, c);
    }

    int judgeByReading(int name, int port, int key) {
        return judge(name, port, key, -1);
    }

    int day() {
        return today;
    }

    int lines() {
        return book.size();
    }

    int keyOf(int line) {
        return 1000 * line(line).mark + line(line).key;
    }

    int seen(int line) {
        return line(line).seen;
    }

    int end(int line) {
        return line(line).end == null ? -1 : line(line).end;
    }

    boolean matches(int line, int name, int port) {
        Line l = line(line);
        in(name, 0, 9999);
        in(port, 0, 3);
        return match(l, name, port);
    }

    int find(int name, int port) {
        in(name, 0, 9999);
        in(port, 0, 3);
        for (int i = 0; i < book.size(); i++) {
            if (match(book.get(i), name, port)) {
                return i;
            }
        }
        return -1;
    }

    long linesOf(int key) {
        in(key, 0, 199);
        long set = 0;
        for (int i = 0; i < book.size(); i++) {
            set += book.get(i).key == key ? (long) Math.pow(2, i) : 0;
        }
        return set;
    }

    int waiting() {
        return waits == null ? -1 : waits[2];
    }
}
