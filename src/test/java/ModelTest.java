import java.util.Random;

/** Runs of mixed calls, right and wrong, each answer and the state at the end compared with the model's. */
public final class ModelTest {
    private static final int RUNS = 8000;
    private static final int LEAST_STEPS = 40;
    /** The 512 calls that are promised for one object, less those that the state at the end takes. */
    private static final int MOST_STEPS = 512 - (3 + 4 * 40);
    private static final int[] WRONG = {-1, -2, Integer.MIN_VALUE, Integer.MAX_VALUE};
    private static final int[] NAMES = {0, 7, 499, 500, 999, 1000, 1234, 1235, 1334, 2234, 1733, 5000, 9500, 9999};
    private static final String[] CALL_NAMES = {
        "addLine", "addPattern", "addHashed", "remove", "certify", "revokeSpan", "setFirstSight", "answer",
        "confirm", "turn", "pass", "clean", "judge", "judgeByReading", "keyOf", "seen", "end", "matches",
        "find", "linesOf", "day", "lines", "waiting"};

    private final Random random;
    private final HostKeyring real = new HostKeyring();
    private final Model model = new Model();
    private final StringBuilder told = new StringBuilder();
    private final int wrongOneIn;
    private final int keys;
    private final boolean isFilling;

    private ModelTest(int seed) {
        random = new Random(seed);
        wrongOneIn = seed % 3 == 0 ? 12 : 60;
        keys = seed % 2 == 0 ? 7 : 200;
        isFilling = seed % 5 < 2;
    }

    public static void main(String[] args) {
        int[] answered = new int[CALL_NAMES.length];
        int[] threw = new int[CALL_NAMES.length];
        for (int seed = 0; seed < RUNS; seed++) {
            new ModelTest(seed).play(answered, threw);
        }
        for (int i = 0; i < CALL_NAMES.length; i++) {
            boolean mayThrow = i < 20;
            if (answered[i] == 0 || mayThrow && threw[i] == 0) {
                System.out.println("ModelTest: " + CALL_NAMES[i] + " answered " + answered[i] + ", threw " + threw[i]);
                System.exit(1);
            }
        }
        System.out.println("ModelTest: " + RUNS + " runs are as the model's");
    }

    private void play(int[] answered, int[] threw) {
        int steps = LEAST_STEPS + random.nextInt(MOST_STEPS - LEAST_STEPS + 1);
        for (int i = 0; i < steps; i++) {
            step(answered, threw);
        }
        compareState();
    }

    private void step(int[] answered, int[] threw) {
        int which = nextCall();
        told.append(CALL_NAMES[which]);
        String got = compare(which);
        if (got.endsWith("Exception")) {
            threw[which]++;
        } else {
            answered[which]++;
        }
        told.append(" -> ").append(got).append('\n');
    }

    /** Some runs rarely take lines out, so that the book gets full. */
    private int nextCall() {
        int which = random.nextInt(CALL_NAMES.length);
        boolean isTakingOut = CALL_NAMES[which].equals("remove") || CALL_NAMES[which].equals("clean");
        return isFilling && isTakingOut && random.nextInt(10) != 0 ? random.nextInt(3) : which;
    }

    private String same(Checks.Call realCall, Checks.Call modelCall) {
        String got = Checks.outcome(realCall);
        String due = Checks.outcome(modelCall);
        if (!got.equals(due)) {
            System.out.println(told + "\nanswered " + got + ", due is " + due);
            System.exit(1);
        }
        return got;
    }

    private int tell(int value) {
        told.append(' ').append(value);
        return value;
    }

    private int within(int least, int most) {
        if (random.nextInt(wrongOneIn) == 0) {
            int which = random.nextInt(WRONG.length + 1);
            return tell(which == WRONG.length ? most + 1 : WRONG[which]);
        }
        int edge = random.nextInt(20);
        if (edge < 2) {
            return tell(edge == 0 ? least : most);
        }
        return tell(least + random.nextInt(most - least + 1));
    }

    private int name() {
        boolean isKnown = random.nextInt(8) != 0 && random.nextInt(wrongOneIn) != 0;
        return isKnown ? tell(NAMES[random.nextInt(NAMES.length)]) : within(0, 9999);
    }

    private int key() {
        boolean isOneOfFew = random.nextInt(8) != 0 && random.nextInt(wrongOneIn) != 0;
        return isOneOfFew ? tell(random.nextInt(keys)) : within(0, 199);
    }

    private int port() {
        boolean isOneOfFew = random.nextInt(3) != 0;
        return isOneOfFew ? tell(1) : within(0, 3);
    }

    private int line() {
        return within(0, Math.max(0, model.lines() - 1));
    }

    private int certificate() {
        return random.nextInt(3) == 0 ? tell(-1) : within(0, 7);
    }

    private int days(int least, int most) {
        return random.nextInt(4) == 0 ? within(least, most) : tell(least + random.nextInt(9));
    }

    private boolean flag() {
        return tell(random.nextInt(2)) == 1;
    }

    private String compare(int which) {
        return which < 6 ? compareLines(which) : which < 12 ? compareAnswers(which) : compareQuestions(which);
    }

    private String compareLines(int which) {
        int key = key();
        int name = name();
        int port = port();
        int mark = random.nextInt(3) == 0 ? within(0, 2) : tell(0);
        int line = line();
        int places = within(0, 15);
        int salt = within(0, 99);
        int other = key();
        int serial = within(0, 999);
        int from = within(0, 1020);
        int to = within(from % 1000, 1000);
        boolean flag = flag();
        switch (which) {
            case 0:
                return same(() -> real.addLine(mark, key), () -> model.addLine(mark, key));
            case 1:
                return same(() -> real.addPattern(line, name, places, port, flag),
                        () -> model.addPattern(line, name, places, port, flag));
            case 2:
                return same(() -> real.addHashed(mark, key, name, port, salt),
                        () -> model.addHashed(mark, key, name, port, salt));
            case 3:
                return same(() -> real.remove(line), () -> model.remove(line));
            case 4:
                return same(() -> real.certify(key, other, name, places, serial, from, from + to),
                        () -> model.certify(key, other, name, places, serial, from, from + to));
            default:
                return same(() -> real.revokeSpan(key, from, to), () -> model.revokeSpan(key, from, to));
        }
    }

    private String compareAnswers(int which) {
        int name = name();
        int port = port();
        int key = key();
        int other = key();
        int certificate = certificate();
        int rule = within(0, 2);
        boolean flag = flag();
        int turnDays = days(0, 1000);
        int passDays = days(1, 1000);
        int cleanDays = days(1, 5000);
        switch (which) {
            case 6:
                return same(() -> real.setFirstSight(rule, flag), () -> model.setFirstSight(rule, flag));
            case 7:
                return same(() -> real.answer(name, port, key, certificate),
                        () -> model.answer(name, port, key, certificate));
            case 8:
                return same(real::confirm, model::confirm);
            case 9:
                return same(() -> real.turn(name, port, key, other, turnDays),
                        () -> model.turn(name, port, key, other, turnDays));
            case 10:
                return same(() -> real.pass(passDays), () -> model.pass(passDays));
            default:
                return same(() -> real.clean(cleanDays), () -> model.clean(cleanDays));
        }
    }

    private String compareQuestions(int which) {
        int name = name();
        int port = port();
        int key = key();
        int certificate = certificate();
        int line = line();
        switch (which) {
            case 12:
                return same(() -> real.judge(name, port, key, certificate),
                        () -> model.judge(name, port, key, certificate));
            case 13:
                return same(() -> real.judgeByReading(name, port, key), () -> model.judgeByReading(name, port, key));
            case 14:
                return same(() -> real.keyOf(line), () -> model.keyOf(line));
            case 15:
                return same(() -> real.seen(line), () -> model.seen(line));
            case 16:
                return same(() -> real.end(line), () -> model.end(line));
            case 17:
                return same(() -> real.matches(line, name, port) ? 1 : 0,
                        () -> model.matches(line, name, port) ? 1 : 0);
            case 18:
                return same(() -> real.find(name, port), () -> model.find(name, port));
            case 19:
                return same(() -> real.linesOf(key), () -> model.linesOf(key));
            case 20:
                return same(real::day, model::day);
            case 21:
                return same(real::lines, model::lines);
            default:
                return same(real::waiting, model::waiting);
        }
    }

    private void compareState() {
        same(real::day, model::day);
        same(real::lines, model::lines);
        same(real::waiting, model::waiting);
        int name = NAMES[random.nextInt(NAMES.length)];
        int port = random.nextInt(2);
        for (int i = 0; i < model.lines(); i++) {
            int line = i;
            same(() -> real.keyOf(line), () -> model.keyOf(line));
            same(() -> real.seen(line), () -> model.seen(line));
            same(() -> real.end(line), () -> model.end(line));
            same(() -> real.matches(line, name, port) ? 1 : 0, () -> model.matches(line, name, port) ? 1 : 0);
        }
    }
}
