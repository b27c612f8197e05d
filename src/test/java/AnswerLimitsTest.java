/**
 * The boundaries that the document names for answers (promises 8 to 10, and 24): each sentence has a test
 * of its own, with values on both sides. What is refused, and with which exception, is in RefusalsTest.
 */
public final class AnswerLimitsTest {
    private static final Checks CHECKS = new Checks("AnswerLimitsTest");
    private static final int NONE = HostKeyring.NONE;
    private static final int PLAIN = HostKeyring.PLAIN;
    private static final int REVOKED_MARK = HostKeyring.REVOKED_MARK;
    private static final int AUTHORITY = HostKeyring.AUTHORITY;
    private static final int ACCEPT = HostKeyring.ACCEPT;
    private static final int ASK = HostKeyring.ASK;
    private static final int REFUSE = HostKeyring.REFUSE;
    /** The keys that the book of sixJudgements() judges so at 5, 0, each by the number of its judgement. */
    private static final int[] KEYS = {1, 30, 6, 9, 7, 7};
    private static final int BEFORE = 150;

    public static void main(String[] args) {
        setFirstSightReturnsTheRuleBefore();
        aJudgementAndARuleTellWhatWaitsAndWhatIsAdded();
        whatWaitedBeforeDoesNotWaitAnyMore();
        anAnswerRefusedLeavesWhatWaits();
        linesAreAddedAsLongAsThereAreFewerThanForty();
        inAFullBookTheRuleIsTheSame();
        aLineThatIsAddedHasOnePattern();
        aLineThatIsAddedIsHashed();
        aLineThatIsAddedIsLikeANewOne();
        onlyACertifiedOrTrustedAnswerSeesLines();
        linesThatAreNotRevokedAreSeen();
        linesAreSeenUntilTheDayOfTheirEnd();
        linesThatMatchAreSeen();
        theAuthorityIsSeenWhetherTheCertificateIsGoodOrNot();
        theLastOfFortyLinesIsSeen();
        confirmAddsAsLongAsThereAreFewerThanForty();
        confirmAddsTheLeastAndTheGreatest();
        confirmHashesIfLinesAreHashedNow();
        confirmAddsWhateverIsKnownNow();
        nothingWaitsThen();
        otherCallsLeaveWhatWaits();
        CHECKS.finish();
    }

    private static void add(HostKeyring x, int mark, int key) {
        x.addHashed(mark, key, 5, 0, 0);
    }

    /** At 5, 0 every judgement can be had; at 6, 0 only NEW. */
    private static HostKeyring sixJudgements() {
        HostKeyring x = new HostKeyring();
        add(x, REVOKED_MARK, 1);
        add(x, AUTHORITY, 60);
        add(x, PLAIN, 6);
        x.certify(60, 30, 5, 15, 0, 0, 5000);
        return x;
    }

    private static int answerJudged(HostKeyring x, int judgement) {
        int name = judgement == HostKeyring.NEW ? 6 : 5;
        int certificate = judgement == HostKeyring.CERTIFIED ? 0 : NONE;
        return x.answer(name, 0, KEYS[judgement], certificate);
    }

    /** Promise 8: "Returns the rule before." */
    private static void setFirstSightReturnsTheRuleBefore() {
        for (int rule = ACCEPT; rule <= REFUSE; rule++) {
            for (int next = ACCEPT; next <= REFUSE; next++) {
                HostKeyring x = new HostKeyring();
                CHECKS.same("the rule of a new book", x.setFirstSight(rule, rule == next), ASK);
                CHECKS.same("the rule before", x.setFirstSight(next, rule != next), rule);
                CHECKS.same("the rule then", x.setFirstSight(ASK, false), next);
            }
        }
    }

    /**
     * "If it is NEW, and the rule is ACCEPT, a PLAIN line for it is added", "If it is NEW, and the rule is
     * ASK, or it is OTHER, it waits to be confirmed."
     */
    private static void aJudgementAndARuleTellWhatWaitsAndWhatIsAdded() {
        for (int rule = ACCEPT; rule <= REFUSE; rule++) {
            for (int judgement = HostKeyring.REVOKED; judgement <= HostKeyring.NEW; judgement++) {
                HostKeyring x = sixJudgements();
                x.setFirstSight(rule, false);
                String told = "judgement " + judgement + ", rule " + rule;
                boolean isNew = judgement == HostKeyring.NEW;
                boolean waits = judgement == HostKeyring.OTHER || isNew && rule == ASK;
                CHECKS.same(told, answerJudged(x, judgement), judgement);
                CHECKS.same("what waits, " + told, x.waiting(), waits ? KEYS[judgement] : NONE);
                CHECKS.same("lines, " + told, x.lines(), isNew && rule == ACCEPT ? 4 : 3);
            }
        }
    }

    /** "What waited before does not wait any more.": with every judgement and every rule */
    private static void whatWaitedBeforeDoesNotWaitAnyMore() {
        for (int rule = ACCEPT; rule <= REFUSE; rule++) {
            for (int judgement = HostKeyring.REVOKED; judgement <= HostKeyring.NEW; judgement++) {
                HostKeyring x = sixJudgements();
                x.answer(77, 2, BEFORE, NONE);
                CHECKS.same("it waits", x.waiting(), BEFORE);
                x.setFirstSight(rule, false);
                answerJudged(x, judgement);
                boolean waits = judgement == HostKeyring.OTHER || judgement == HostKeyring.NEW && rule == ASK;
                CHECKS.same("judgement " + judgement + ", rule " + rule,
                        x.waiting(), waits ? KEYS[judgement] : NONE);
                if (waits) {
                    int line = x.confirm();
                    CHECKS.no("the name that waited before", x.matches(line, 77, 2));
                } else {
                    CHECKS.notNow("nothing waits", () -> x.confirm());
                }
            }
        }
    }

    private static void anAnswerRefusedLeavesWhatWaits() {
        HostKeyring x = new HostKeyring();
        x.answer(77, 2, BEFORE, NONE);
        CHECKS.outOfRange("key 200", () -> x.answer(6, 0, 200, NONE));
        CHECKS.outOfRange("name 10000", () -> x.answer(10000, 0, 7, NONE));
        CHECKS.outOfRange("port 4", () -> x.answer(6, 4, 7, NONE));
        CHECKS.noSuch("certificate 0", () -> x.answer(6, 0, 7, 0));
        CHECKS.same("the key waits", x.waiting(), BEFORE);
        x.confirm();
        CHECKS.yes("with its name and port", x.matches(0, 77, 2));
    }

    /** "a PLAIN line for it is added, if there are fewer than 40" */
    private static void linesAreAddedAsLongAsThereAreFewerThanForty() {
        for (int lines = 38; lines <= 40; lines++) {
            for (boolean isHashed : new boolean[] {false, true}) {
                HostKeyring x = new HostKeyring();
                x.setFirstSight(ACCEPT, isHashed);
                Books.fillTo(x, lines);
                CHECKS.same("a first sight with " + lines, x.answer(5, 0, 7, NONE), HostKeyring.NEW);
                CHECKS.same("lines then", x.lines(), Math.min(lines + 1, 40));
                CHECKS.same("the line for it", x.find(5, 0), lines < 40 ? lines : NONE);
                CHECKS.same("what waits", x.waiting(), NONE);
                CHECKS.same("judged then", x.judge(5, 0, 7, NONE), lines < 40 ? HostKeyring.TRUSTED : HostKeyring.NEW);
            }
        }
    }

    /** A full book takes no line, but the rest of promise 9 goes for it too. */
    private static void inAFullBookTheRuleIsTheSame() {
        HostKeyring x = Books.full();
        x.remove(39);
        x.addHashed(PLAIN, 9, 700, 1, 0);
        x.remove(0);
        x.addHashed(PLAIN, 150, 701, 1, 0);
        CHECKS.same("lines", x.lines(), 40);
        x.setFirstSight(ACCEPT, false);
        CHECKS.same("accepted, but full", x.answer(800, 1, 7, NONE), HostKeyring.NEW);
        CHECKS.same("what waited waits no more", x.waiting(), NONE);
        x.setFirstSight(ASK, false);
        CHECKS.same("asked", x.answer(800, 1, 0, NONE), HostKeyring.NEW);
        CHECKS.same("it waits", x.waiting(), 0);
        x.setFirstSight(REFUSE, false);
        CHECKS.same("other", x.answer(700, 1, 199, NONE), HostKeyring.OTHER);
        CHECKS.same("it waits too", x.waiting(), 199);
        CHECKS.same("refused", x.answer(800, 1, 7, NONE), HostKeyring.NEW);
        CHECKS.same("nothing waits", x.waiting(), NONE);
        CHECKS.same("lines then", x.lines(), 40);
    }

    /** "otherwise it has one pattern, with the name, all places and the port" */
    private static void aLineThatIsAddedHasOnePattern() {
        for (int name : new int[] {0, 5555, 9999}) {
            for (int port = 0; port <= 3; port++) {
                HostKeyring x = new HostKeyring();
                x.setFirstSight(ACCEPT, false);
                x.answer(name, port, 7, NONE);
                for (int asked = 0; asked <= 3; asked++) {
                    CHECKS.same("port " + port + " asked at " + asked, x.find(name, asked), asked == port ? 0 : NONE);
                }
                for (int step : new int[] {1, 10, 100, 1000, 499}) {
                    int other = name == 9999 ? name - step : name + step;
                    CHECKS.no("name " + name + " asked as " + other, x.matches(0, other, port));
                }
                for (int count = 2; count <= 4; count++) {
                    CHECKS.same("patterns", x.addPattern(0, 1, 15, port, false), count);
                }
                CHECKS.notNow("a fifth pattern", () -> x.addPattern(0, 1, 15, 0, false));
            }
        }
    }

    /** "A line that is added so is hashed, if lines are hashed" */
    private static void aLineThatIsAddedIsHashed() {
        for (int name : new int[] {0, 498, 499, 9499}) {
            for (int key : new int[] {0, 199}) {
                HostKeyring x = new HostKeyring();
                x.setFirstSight(ACCEPT, true);
                x.answer(name, 3, key, NONE);
                CHECKS.yes("the name " + name, x.matches(0, name, 3));
                CHECKS.yes("499 further", x.matches(0, name + 499, 3));
                CHECKS.no("498 further", x.matches(0, name + 498, 3));
                CHECKS.no("1 further", x.matches(0, name + 1, 3));
                CHECKS.no("at another port", x.matches(0, name, 2));
                CHECKS.notNow("a pattern", () -> x.addPattern(0, name, 15, 3, false));
                x.setFirstSight(ACCEPT, false);
                x.answer(name + 1, 3, key, NONE);
                CHECKS.no("not hashed any more", x.matches(1, name + 500, 3));
            }
        }
    }

    private static void aLineThatIsAddedIsLikeANewOne() {
        for (int day : new int[] {0, 5000}) {
            HostKeyring x = new HostKeyring();
            x.setFirstSight(ACCEPT, day == 0);
            Books.passTo(x, day);
            for (int key : new int[] {0, 199}) {
                x.answer(key, 0, key, NONE);
                int line = x.find(key, 0);
                CHECKS.same("plain, with its key", x.keyOf(line), key);
                CHECKS.same("seen today", x.seen(line), day);
                CHECKS.same("without an end", x.end(line), NONE);
            }
        }
    }

    /** "then, if it is CERTIFIED or TRUSTED": the other judgements see no line, whatever matches */
    private static void onlyACertifiedOrTrustedAnswerSeesLines() {
        for (int judgement = HostKeyring.REVOKED; judgement <= HostKeyring.OTHER; judgement++) {
            HostKeyring x = sixJudgements();
            add(x, AUTHORITY, KEYS[judgement]);
            x.certify(60, 199, 5, 15, 0, 0, 5000);
            x.pass(1);
            int certificate = judgement == HostKeyring.CERTIFIED ? 0 : 1;
            CHECKS.same("judgement", x.answer(5, 0, KEYS[judgement], certificate), judgement);
            boolean sees = judgement == HostKeyring.CERTIFIED || judgement == HostKeyring.TRUSTED;
            CHECKS.same("the authority of the certificate, judgement " + judgement, x.seen(1), sees ? 1 : 0);
            CHECKS.same("an authority with the key, judgement " + judgement, x.seen(3), sees ? 1 : 0);
        }
        HostKeyring x = new HostKeyring();
        add(x, AUTHORITY, 60);
        add(x, AUTHORITY, 7);
        x.certify(60, 199, 5, 15, 0, 0, 5000);
        x.setFirstSight(ACCEPT, false);
        x.pass(1);
        CHECKS.same("a first sight", x.answer(5, 0, 7, 0), HostKeyring.NEW);
        CHECKS.same("the authority of its certificate", x.seen(0), 0);
        CHECKS.same("an authority with its key", x.seen(1), 0);
        CHECKS.same("its line", x.seen(2), 1);
    }

    /** "all lines that are not REVOKED_MARK": the others of both marks */
    private static void linesThatAreNotRevokedAreSeen() {
        HostKeyring x = new HostKeyring();
        add(x, PLAIN, 6);
        add(x, AUTHORITY, 6);
        add(x, AUTHORITY, 60);
        add(x, PLAIN, 60);
        x.addHashed(REVOKED_MARK, 6, 6, 0, 0);
        x.addHashed(REVOKED_MARK, 60, 6, 0, 0);
        x.certify(60, 6, 5, 15, 0, 0, 5000);
        x.pass(1);
        CHECKS.same("certified", x.answer(5, 0, 6, 0), HostKeyring.CERTIFIED);
        int[] seen = {1, 1, 1, 1, 0, 0};
        for (int line = 0; line < seen.length; line++) {
            CHECKS.same("line " + line, x.seen(line), seen[line]);
        }
        x.pass(1);
        CHECKS.same("trusted", x.answer(5, 0, 6, NONE), HostKeyring.TRUSTED);
        int[] seenThen = {2, 2, 1, 1, 0, 0};
        for (int line = 0; line < seenThen.length; line++) {
            CHECKS.same("line " + line + " without the certificate", x.seen(line), seenThen[line]);
        }
    }

    /** "have not ended" */
    private static void linesAreSeenUntilTheDayOfTheirEnd() {
        HostKeyring x = new HostKeyring();
        add(x, PLAIN, 6);
        x.turn(5, 0, 6, 7, 3);
        add(x, PLAIN, 6);
        for (int day = 1; day <= 4; day++) {
            x.pass(1);
            CHECKS.same("trusted", x.answer(5, 0, 6, NONE), HostKeyring.TRUSTED);
            CHECKS.same("a line that ends on day 3, on day " + day, x.seen(0), Math.min(day, 2));
            CHECKS.same("a line with another key, on day " + day, x.seen(1), 0);
            CHECKS.same("a line without an end, on day " + day, x.seen(2), day);
        }
    }

    /** "match and have this key" */
    private static void linesThatMatchAreSeen() {
        HostKeyring x = new HostKeyring();
        add(x, PLAIN, 6);
        x.addHashed(PLAIN, 6, 4, 0, 0);
        x.addHashed(PLAIN, 6, 5, 1, 0);
        x.addHashed(PLAIN, 6, 504, 0, 99);
        x.addLine(PLAIN, 6);
        x.addLine(PLAIN, 6);
        x.addPattern(5, 0, 0, 0, false);
        x.addLine(PLAIN, 6);
        x.addPattern(6, 0, 0, 0, false);
        x.addPattern(6, 5, 15, 0, true);
        add(x, PLAIN, 5);
        add(x, PLAIN, 7);
        add(x, PLAIN, 9);
        x.pass(1);
        CHECKS.same("trusted", x.answer(5, 0, 6, NONE), HostKeyring.TRUSTED);
        int[] seen = {1, 0, 0, 1, 0, 1, 0, 0, 0, 0};
        for (int line = 0; line < seen.length; line++) {
            CHECKS.same("line " + line, x.seen(line), seen[line]);
        }
    }

    /** "or the authority of the certificate (whether that is good or not)" */
    private static void theAuthorityIsSeenWhetherTheCertificateIsGoodOrNot() {
        HostKeyring x = new HostKeyring();
        add(x, PLAIN, 6);
        add(x, AUTHORITY, 60);
        add(x, AUTHORITY, 61);
        x.certify(60, 6, 5, 15, 10, 0, 5000);
        x.certify(60, 6, 6, 15, 0, 0, 5000);
        x.certify(60, 6, 5, 15, 0, 5000, 5000);
        x.certify(60, 6, 5, 15, 0, 0, 0);
        x.certify(60, 9, 5, 15, 0, 0, 5000);
        x.certify(60, 6, 5, 15, 20, 0, 5000);
        x.revokeSpan(60, 20, 20);
        for (int certificate = 0; certificate <= 5; certificate++) {
            x.pass(1);
            CHECKS.same("judged with certificate " + certificate, x.answer(5, 0, 6, certificate),
                    certificate == 0 ? HostKeyring.CERTIFIED : HostKeyring.TRUSTED);
            CHECKS.same("its authority", x.seen(1), x.day());
            CHECKS.same("the authority beside it", x.seen(2), 0);
        }
    }

    private static void theLastOfFortyLinesIsSeen() {
        HostKeyring x = new HostKeyring();
        for (int line = 0; line < 40; line++) {
            add(x, PLAIN, line == 20 ? 7 : 6);
        }
        Books.passTo(x, 5000);
        CHECKS.same("trusted", x.answer(5, 0, 6, NONE), HostKeyring.TRUSTED);
        for (int line = 0; line < 40; line++) {
            CHECKS.same("line " + line, x.seen(line), line == 20 ? 0 : 5000);
        }
    }

    /** Promise 10: "IllegalStateException if nothing waits, or there are 40 lines" */
    private static void confirmAddsAsLongAsThereAreFewerThanForty() {
        HostKeyring x = new HostKeyring();
        Books.fillTo(x, 39);
        x.answer(5, 0, 7, NONE);
        CHECKS.same("confirmed with 39 lines", x.confirm(), 39);
        CHECKS.same("lines", x.lines(), 40);
        x.answer(6, 0, 7, NONE);
        CHECKS.notNow("confirmed with 40 lines", () -> x.confirm());
        CHECKS.same("it waits on", x.waiting(), 7);
        CHECKS.same("no line for it", x.find(6, 0), NONE);
        x.remove(0);
        CHECKS.same("confirmed with 39 lines again", x.confirm(), 39);
        CHECKS.same("its line", x.find(6, 0), 39);
        CHECKS.notNow("nothing waits, with 40 lines", () -> x.confirm());
        x.remove(0);
        CHECKS.notNow("nothing waits, with 39 lines", () -> x.confirm());
    }

    private static void confirmAddsTheLeastAndTheGreatest() {
        HostKeyring x = new HostKeyring();
        x.answer(0, 0, 0, NONE);
        CHECKS.same("key 0 waits", x.waiting(), 0);
        CHECKS.same("the first line", x.confirm(), 0);
        CHECKS.same("the least name and port", x.find(0, 0), 0);
        CHECKS.same("the least key", x.keyOf(0), 0);
        x.answer(9999, 3, 199, NONE);
        CHECKS.same("key 199 waits", x.waiting(), 199);
        Books.passTo(x, 5000);
        CHECKS.same("the second line", x.confirm(), 1);
        CHECKS.same("the greatest name and port", x.find(9999, 3), 1);
        CHECKS.same("the greatest key", x.keyOf(1), 199);
        CHECKS.same("seen when it was confirmed", x.seen(1), 5000);
        CHECKS.same("without an end", x.end(1), NONE);
    }

    /** "as at first sights (hashed if lines are hashed now)" */
    private static void confirmHashesIfLinesAreHashedNow() {
        boolean[] both = {false, true};
        for (boolean isHashedFirst : both) {
            for (boolean isHashedThen : both) {
                for (int rule = ACCEPT; rule <= REFUSE; rule++) {
                    HostKeyring x = new HostKeyring();
                    x.setFirstSight(ASK, isHashedFirst);
                    x.answer(5, 0, 7, NONE);
                    x.setFirstSight(rule, isHashedThen);
                    x.confirm();
                    CHECKS.yes("the name", x.matches(0, 5, 0));
                    CHECKS.same("hashed", x.matches(0, 504, 0) ? 1 : 0, isHashedThen ? 1 : 0);
                    CHECKS.same("a pattern more", Checks.outcome(() -> x.addPattern(0, 1, 15, 1, false)),
                            isHashedThen ? "IllegalStateException" : "2");
                }
            }
        }
    }

    /** "Confirms what waits: a PLAIN line for it is added", also if it would be judged otherwise by now */
    private static void confirmAddsWhateverIsKnownNow() {
        for (int mark = PLAIN; mark <= AUTHORITY; mark++) {
            HostKeyring x = new HostKeyring();
            x.answer(5, 0, 7, NONE);
            add(x, mark, 7);
            CHECKS.same("it waits on", x.waiting(), 7);
            CHECKS.same("confirmed beside a line with mark " + mark, x.confirm(), 1);
            CHECKS.same("a plain line", x.keyOf(1), 7);
            CHECKS.yes("for it", x.matches(1, 5, 0));
        }
    }

    /** "nothing waits then" */
    private static void nothingWaitsThen() {
        for (int key : new int[] {0, 7, 199}) {
            HostKeyring x = new HostKeyring();
            CHECKS.notNow("nothing waits at first", () -> x.confirm());
            x.answer(5, 0, key, NONE);
            CHECKS.same("it waits", x.waiting(), key);
            x.confirm();
            CHECKS.same("nothing waits", x.waiting(), NONE);
            CHECKS.notNow("confirmed twice", () -> x.confirm());
            CHECKS.same("lines", x.lines(), 1);
        }
    }

    /** Only answer() and confirm() end what waits; promise 24: "the key that waits to be confirmed" */
    private static void otherCallsLeaveWhatWaits() {
        HostKeyring x = new HostKeyring();
        x.answer(77, 2, BEFORE, NONE);
        add(x, PLAIN, 6);
        x.addPattern(x.addLine(PLAIN, BEFORE), 77, 15, 2, false);
        x.certify(60, BEFORE, 77, 15, 0, 0, 5000);
        x.revokeSpan(60, 0, 0);
        x.turn(77, 2, BEFORE, 6, 0);
        x.turn(5, 0, 6, 9, 1);
        x.setFirstSight(REFUSE, false);
        x.remove(0);
        x.pass(1000);
        x.clean(1);
        x.judge(77, 2, BEFORE, 0);
        CHECKS.same("the key", x.waiting(), BEFORE);
        CHECKS.same("no line is left", x.lines(), 0);
        x.confirm();
        CHECKS.same("its line", x.find(77, 2), 0);
        CHECKS.same("its key", x.keyOf(0), BEFORE);
    }
}
