/** Promises 10 to 12 at their edges; the words of the document stand above the tests of them. */
public final class ScoreEdgesTest {
    private static final int NONE = MemberScores.NONE, OUTSIDE = MemberScores.OUTSIDE;
    private static final int MIN = Make.MIN, MAX = Make.MAX;
    private static final int THING = 0, NODE = 1;

    public static void main(String[] args) {
        scoreOfNoLevel();
        scoreOfNoLevelSettlesNothing();
        scoreOfNoLevelWithAFault();
        scoreOfNoRules();
        scoreOfLevelsApart();
        scoreIsALong();
        scoreSettlesAllLevels();
        scoreFaultOfWhateverLevel();
        scoreFaultWhenAllIsSettled();
        scoreFaultOfARuleThatIsOff();
        scoreFaultOfWeight0();
        failedOutside();
        failedOutsideSettlesNothing();
        failedNone();
        failedFirstByRule();
        failedFirstByXThenY();
        failedYOfOneAlone();
        failedEachFault();
        failedSettlesWhateverIsAsked();
        fullOfNoLevel();
        fullWorksAnew();
        fullWorksAllLevels();
        fullWorksNoneThatIsOff();
        fullKeepsNothing();
        fullAfterAFaultNoMore();
        fullByAnotherFaultThanKept();
        fullIsALong();
        Check.end();
    }

    private static void dueNoLevel(String call, MemberScores m, boolean full) {
        for (int level : new int[] {-1, 3, 4, MIN, MAX}) {
            Check.dueThrow(call + " " + level, IllegalArgumentException.class,
                () -> full ? m.full(level) : m.score(level));
        }
    }

    private static void dueFault(String call, MemberScores m, int level) {
        Check.dueThrow("score, " + call, IllegalStateException.class, () -> m.score(level));
        Check.dueThrow("full, " + call, IllegalStateException.class, () -> m.full(level));
    }

    // Promise 10: SCORE of a LEVEL, as all is SETTLED. IllegalArgumentException: there is no such LEVEL.

    private static void scoreOfNoLevel() {
        dueNoLevel("score of a new one", new MemberScores(), false);
        MemberScores m = Make.objects(THING);
        Make.rule(m, 0, Make.number(m, 1));
        dueNoLevel("score", m, false);
    }

    private static void scoreOfNoLevelSettlesNothing() {
        MemberScores m = Make.objects(THING);
        Make.rule(m, 0, Make.count(m));
        dueNoLevel("score", m, false);
        Check.due("FRESH still", m.about(4), 1);
        Check.due("COUNT stays", m.about(6), 0);
    }

    private static void scoreOfNoLevelWithAFault() {
        MemberScores m = Make.objects(THING);
        Make.rule(m, 0, Make.of(m, 3, Make.y(m)));
        dueNoLevel("score, FRESH", m, false);
        m.failed(0);
        dueNoLevel("score, with a FAULT", m, false);
    }

    private static void scoreOfNoRules() {
        MemberScores m = Make.objects(THING);
        int one = Make.number(m, 1);
        for (int level = 0; level <= 2; level++) {
            Check.due("no RULES", m.score(level), 0);
        }
        Make.rule(m, 0, one);
        m.turn(0, false);
        Check.due("no RULES that are ON", m.score(0), 0);
        Check.due("no RULES that are ON, in full", m.full(0), 0);
    }

    // Terms: SCORE of a LEVEL: of all CALLS of RULES of it that are ON, WEIGHT times MARK, together (a long).

    private static void scoreOfLevelsApart() {
        MemberScores m = Make.objects(THING, THING);
        int a = Make.of(m, 3, Make.x(m));
        m.set(0, 0, 3);
        m.set(1, 0, -10);
        m.rule(0, 0, 1, a);
        m.rule(0, 1, -2, a);
        m.rule(0, 2, 0, a);
        m.rule(0, 0, 100, a);
        Check.due("LEVEL 0", m.score(0), -7 - 700);
        Check.due("LEVEL 1", m.score(1), 14);
        Check.due("LEVEL 2, WEIGHT 0", m.score(2), 0);
        m.turn(3, false);
        Check.due("LEVEL 0, one RULE off", m.score(0), -7);
    }

    private static void scoreIsALong() {
        MemberScores m = Make.alike(16, THING);
        int least = Make.number(m, MIN);
        int most = Make.number(m, MAX);
        for (int i = 0; i < 6; i++) {
            m.rule(4, 0, i < 4 ? 1000 : -1000, i < 4 ? least : most);
        }
        long want = 240L * 4 * 1000 * MIN - 240L * 2 * 1000 * MAX;
        Check.due("far below an int", m.score(0), want);
        m.rule(4, 1, -1000, least);
        m.rule(4, 1, -1000, least);
        Check.due("far above an int", m.score(1), 480L * 1000 * -(long) MIN);
    }

    private static void scoreSettlesAllLevels() {
        for (int level = 0; level <= 2; level++) {
            MemberScores m = Make.objects(THING);
            int c = Make.count(m);
            m.rule(0, 2, 1, c);
            m.rule(0, 1, 1, c);
            m.rule(0, 0, 1, c);
            Check.due("SCORE of " + level, m.score(level), 2 - level);
            Check.due("all is SETTLED", m.about(4), 0);
            Check.due("SCORE of 0", m.score(0), 2);
        }
    }

    // Promise 10: IllegalStateException: a CALL of a RULE that is ON, of whatever LEVEL, has a FAULT.

    private static void scoreFaultOfWhateverLevel() {
        for (int level = 0; level <= 2; level++) {
            MemberScores m = Make.objects(THING);
            m.rule(0, level, 1, Make.of(m, 3, Make.y(m)));
            for (int asked = 0; asked <= 2; asked++) {
                dueFault("LEVEL " + asked + ", a FAULT of " + level, m, asked);
            }
        }
    }

    private static void scoreFaultWhenAllIsSettled() {
        MemberScores m = Make.objects(THING);
        int c = Make.count(m);
        Make.rule(m, 0, c);
        Make.rule(m, 0, Make.of(m, 3, Make.y(m)));
        Make.rule(m, 0, c);
        Check.dueThrow("a FAULT between", IllegalStateException.class, () -> m.score(0));
        Check.due("all is SETTLED then, too", m.about(4), 0);
        Check.due("those after it, too", m.about(6), 2);
        Check.due("the MARK after it", m.mark(2, 0, NONE), 1);
        Check.dueThrow("kept", IllegalStateException.class, () -> m.score(0));
        Check.due("nothing was worked again", m.about(5), 3);
    }

    private static void scoreFaultOfARuleThatIsOff() {
        MemberScores m = Make.objects(THING);
        Make.rule(m, 0, Make.of(m, 3, Make.y(m)));
        Make.rule(m, 0, Make.number(m, 4));
        dueFault("ON", m, 0);
        m.turn(0, false);
        Check.due("off", m.score(0), 4);
        Check.due("off, in full", m.full(0), 4);
        m.turn(0, true);
        dueFault("ON again", m, 0);
    }

    private static void scoreFaultOfWeight0() {
        MemberScores m = Make.objects(THING);
        m.rule(0, 1, 0, Make.of(m, 3, Make.y(m)));
        dueFault("WEIGHT 0", m, 0);
    }

    // Promise 11: what = 0 the RULE, 1 X, 2 Y (NONE), 3 the FAULT. NONE: there is none. OUTSIDE (nothing is SETTLED).

    private static void failedOutside() {
        MemberScores m = new MemberScores();
        for (int what : new int[] {-1, 4, 5, MIN, MAX}) {
            Check.due("failed(" + what + ")", m.failed(what), OUTSIDE);
        }
    }

    private static void failedOutsideSettlesNothing() {
        MemberScores m = Make.objects(THING);
        Make.rule(m, 0, Make.of(m, 3, Make.y(m)));
        m.failed(-1);
        m.failed(4);
        Check.due("FRESH still", m.about(4), 1);
        Check.due("no FAULT", m.about(8), 0);
        m.failed(0);
        Check.due("OUTSIDE with a FAULT", m.failed(4), OUTSIDE);
    }

    private static void failedNone() {
        MemberScores m = Make.objects(THING);
        for (int what = 0; what <= 3; what++) {
            Check.due("no RULES", m.failed(what), NONE);
        }
        Make.rule(m, 0, Make.number(m, 0));
        for (int what = 0; what <= 3; what++) {
            Check.due("no FAULT", m.failed(what), NONE);
        }
    }

    private static void failedFirstByRule() {
        MemberScores m = Make.alike(2, THING);
        int fails = Make.of(m, 3, Make.y(m));
        Make.rule(m, 0, Make.number(m, 1));
        m.rule(0, 2, 1, fails);
        m.rule(0, 0, 1, fails);
        Check.due("not by LEVELS", m.failed(0), 1);
        m.turn(1, false);
        Check.due("the next that is ON", m.failed(0), 2);
        m.turn(1, true);
        Check.due("the first again", m.failed(0), 1);
        Check.due("its X", m.failed(1), 0);
    }

    private static void failedFirstByXThenY() {
        MemberScores m = Make.alike(16, NODE);
        int x = Make.x(m);
        int y = Make.y(m);
        int apart = Make.both(m, 9, Make.of(m, 3, x), Make.of(m, 4, y));
        Make.rule(m, 4, Make.both(m, 12, Make.number(m, 1), apart));
        for (int object = 0; object < 16; object++) {
            m.set(object, 0, 1);
        }
        Check.due("none", m.failed(1), NONE);
        m.set(14, 1, 9);
        m.set(15, 0, 9);
        Check.due("X 15, the last CALL", m.failed(1), 15);
        Check.due("Y 14", m.failed(2), 14);
        m.set(3, 1, 1);
        Check.due("X 0", m.failed(1), 0);
        Check.due("Y 3", m.failed(2), 3);
        m.set(1, 1, 1);
        Check.due("X 0 still", m.failed(1), 0);
        Check.due("Y 1", m.failed(2), 1);
        m.set(0, 0, 2);
        Check.due("X 1", m.failed(1), 1);
        Check.due("Y 3 of X 1", m.failed(2), 3);
    }

    private static void failedYOfOneAlone() {
        for (int over = 0; over <= 2; over++) {
            MemberScores m = Make.objects(2, 2);
            Make.rule(m, over, Make.of(m, 3, Make.y(m)));
            Check.due("Y OVER " + over, m.failed(2), NONE);
            Check.due("X OVER " + over, m.failed(1), 0);
        }
    }

    private static void failedEachFault() {
        MemberScores m = Make.objects(2);
        int x = Make.x(m);
        int zero = Make.number(m, 0);
        m.row(0, 0);
        Make.rule(m, 0, Make.of(m, 3, Make.y(m)));
        m.object(NODE);
        Make.rule(m, 1, Make.both(m, 6, x, zero));
        Make.rule(m, 0, Make.both(m, 11, zero, zero));
        Check.due("EMPTY", m.failed(3), 0);
        m.turn(0, false);
        Check.due("INDEX", m.failed(3), 2);
        m.row(0, 1);
        Check.due("CAST", m.failed(3), 1);
        Check.due("CAST of X 1", m.failed(1), 1);
        m.turn(1, false);
        Check.due("ZERO", m.failed(3), 3);
    }

    private static void failedSettlesWhateverIsAsked() {
        for (int what = 0; what <= 3; what++) {
            MemberScores m = Make.objects(THING, THING);
            int c = Make.count(m);
            m.rule(0, 1, 1, Make.of(m, 3, Make.y(m)));
            m.rule(0, 2, 1, c);
            m.failed(what);
            Check.due("all is SETTLED by " + what, m.about(4), 0);
            Check.due("COUNT by " + what, m.about(6), 2);
            Check.due("kept by " + what, m.about(5), 4);
        }
    }

    // Promise 12: The same as score(), but all CALLS of RULES that are ON are worked anew, whether FRESH or not,
    // and nothing of it is kept (COUNT goes on; after a FAULT no more are worked).

    private static void fullOfNoLevel() {
        dueNoLevel("full of a new one", new MemberScores(), true);
        MemberScores m = Make.objects(THING);
        int c = Make.count(m);
        Make.rule(m, 0, Make.both(m, 11, c, Make.of(m, 3, Make.x(m))));
        dueNoLevel("full, of what would fail", m, true);
        Check.due("nothing was worked", m.about(6), 0);
        Check.due("no FAULT", m.about(8), 0);
    }

    private static void fullWorksAnew() {
        MemberScores m = Make.objects(THING, THING);
        Make.rule(m, 0, Make.count(m));
        Check.due("FRESH ones", m.full(0), 0 + 1);
        Check.due("anew", m.full(0), 2 + 3);
        Check.due("SETTLED", m.score(0), 4 + 5);
        Check.due("whether FRESH or not", m.full(0), 6 + 7);
        Check.due("what was kept", m.score(0), 4 + 5);
    }

    private static void fullWorksAllLevels() {
        MemberScores m = Make.objects(THING);
        int c = Make.count(m);
        for (int level = 2; level >= 0; level--) {
            m.rule(0, level, 1, c);
        }
        Check.due("LEVEL 0 after two more", m.full(0), 2);
        Check.due("LEVEL 1 after four more", m.full(1), 4);
        Check.due("LEVEL 2 after six more", m.full(2), 6);
        Check.due("9 COUNTS", m.about(6), 9);
    }

    private static void fullWorksNoneThatIsOff() {
        MemberScores m = Make.objects(THING);
        int c = Make.count(m);
        Make.rule(m, 0, c);
        Make.rule(m, 0, Make.of(m, 3, Make.y(m)));
        Make.rule(m, 0, c);
        m.turn(1, false);
        Check.due("two are ON", m.full(0), 1);
        m.turn(0, false);
        m.turn(2, false);
        Check.due("none is ON", m.full(0), 0);
        Check.due("two COUNTS", m.about(6), 2);
    }

    private static void fullKeepsNothing() {
        MemberScores m = Make.objects(THING);
        int a = Make.of(m, 3, Make.x(m));
        Make.rule(m, 0, a);
        Check.due("full", m.full(0), 0);
        Check.due("FRESH still", m.about(4), 1);
        Check.due("none was kept", m.about(5), 0);
        Check.due("never worked", m.reads(0, 0, NONE, 0), 0);
        m.score(0);
        m.set(0, 0, 4);
        Check.due("full sees the change", m.full(0), 4);
        Check.due("FRESH by the change still", m.about(4), 1);
        Check.due("one was kept", m.about(5), 1);
        m.turn(0, false);
        Make.rule(m, 0, Make.both(m, 11, a, Make.number(m, 0)));
        Check.dueThrow("full of a FAULT", IllegalStateException.class, () -> m.full(0));
        Check.due("the FAULT isn't kept", m.about(4), 1);
        Check.due("it counts", m.about(8), 1);
    }

    private static void fullAfterAFaultNoMore() {
        MemberScores m = Make.alike(3, THING);
        int c = Make.count(m);
        int x = Make.x(m);
        Make.rule(m, 0, Make.both(m, 12, c, Make.of(m, 3, x)));
        Make.rule(m, 0, c);
        m.set(0, 0, 1);
        Check.dueThrow("X 1 fails", IllegalStateException.class, () -> m.full(0));
        Check.due("X 0 and 1 were worked", m.about(6), 2);
        Check.due("one FAULT", m.about(8), 1);
        m.set(1, 0, 1);
        Check.dueThrow("X 2, the last one, fails", IllegalStateException.class, () -> m.full(0));
        Check.due("all of RULE 0 were worked", m.about(6), 2 + 3);
        m.set(2, 0, 1);
        Check.due("none fails", m.full(0), (5 + 3) % 8 + 1 + 2);
        Check.due("all were worked", m.about(6), 5 + 6);
    }

    private static void fullByAnotherFaultThanKept() {
        MemberScores m = Make.objects(THING);
        int c = Make.count(m);
        int two = Make.number(m, 2);
        Make.rule(m, 0, Make.both(m, 11, two, Make.both(m, 12, c, two)));
        Check.dueThrow("COUNT 0 fails and is kept", IllegalStateException.class, () -> m.score(0));
        Check.due("COUNT 1 doesn't", m.full(0), 2);
        Check.dueThrow("what is kept does", IllegalStateException.class, () -> m.score(0));
        Check.dueThrow("COUNT 2 fails", IllegalStateException.class, () -> m.full(0));
        Check.due("two FAULTS", m.about(8), 2);
    }

    private static void fullIsALong() {
        MemberScores m = Make.alike(16, THING);
        int least = Make.number(m, MIN);
        for (int i = 0; i < 8; i++) {
            m.rule(4, 1, 1000, least);
        }
        Check.due("far below an int", m.full(1), 1920L * 1000 * MIN);
        Check.due("the other LEVEL", m.full(0), 0);
    }
}
