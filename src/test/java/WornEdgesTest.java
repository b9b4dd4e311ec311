/** FAULT 4 WORN at its edges: After 2000 FAULTS in all, by whatever is asked, a CALL that is to be worked is not. */
public final class WornEdgesTest {
    private static final int NONE = MemberScores.NONE;
    private static final int WORN = 4;

    public static void main(String[] args) {
        theLastFaultIsNone();
        wornByMark();
        wornBySettling();
        wornByFull();
        wornByUnlike();
        wornByUneven();
        countsFaultsOfAllCalls();
        nothingIsRead();
        countStays();
        whatCannotFailIsWorn();
        whatIsKeptStands();
        wornIsKept();
        wornIsNotFreshAgain();
        wornIsAlike();
        wornIsEven();
        fullIsWorn();
        fullOfNoCallsIsNot();
        Check.end();
    }

    /** failing() after so many FAULTS, with RULES 2 of A of X and 3 of COUNT, OVER 0, LEVEL 1, both off. */
    private static MemberScores after(int faults) {
        MemberScores m = Make.failing();
        int c = Make.count(m);
        m.rule(0, 1, 1, Make.of(m, 3, Make.x(m)));
        m.rule(0, 1, 1, c);
        m.turn(2, false);
        m.turn(3, false);
        Make.fail(m, faults);
        return m;
    }

    private static void dueWorn(String call, MemberScores m, int rule, int x, int y) {
        Check.dueThrow(call, IllegalStateException.class, () -> m.mark(rule, x, y));
    }

    private static void dueZero(String call, MemberScores m, int rule, int x, int y) {
        Check.dueThrow(call, ArithmeticException.class, () -> m.mark(rule, x, y));
    }

    private static void theLastFaultIsNone() {
        MemberScores m = after(1999);
        Check.due("1999 FAULTS, a MARK", m.mark(2, 0, NONE), 0);
        dueZero("the 2000th FAULT", m, 0, 15, 14);
        Check.due("2000 FAULTS", m.about(8), 2000);
        dueWorn("after it", m, 0, 15, 13);
        Check.due("2000 FAULTS still", m.about(8), 2000);
    }

    private static void wornByMark() {
        MemberScores m = after(2000);
        dueWorn("FRESH", m, 0, 15, 14);
        dueWorn("kept", m, 0, 15, 14);
        dueZero("what has its FAULT keeps it", m, 0, 0, 1);
    }

    private static void wornBySettling() {
        MemberScores m = after(1999);
        m.turn(1, true);
        Check.due("the first has FAULT ZERO", m.failed(3), 3);
        Check.due("2000 FAULTS", m.about(8), 2000);
        dueZero("X 0", m, 1, 0, NONE);
        for (int x = 1; x < 16; x++) {
            dueWorn("X " + x, m, 1, x, NONE);
        }
        Check.due("all is SETTLED", m.about(4), 0);
        m.turn(1, false);
        m.turn(2, true);
        Check.due("another RULE's first is WORN", m.failed(3), WORN);
        Check.due("its RULE", m.failed(0), 2);
        Check.dueThrow("SCORE", IllegalStateException.class, () -> m.score(0));
    }

    private static void wornByFull() {
        MemberScores m = after(1999);
        m.turn(1, true);
        int counted = m.about(6);
        Check.dueThrow("the 2000th FAULT", IllegalStateException.class, () -> m.full(0));
        Check.due("2000 FAULTS", m.about(8), 2000);
        Check.due("it was worked", m.about(6), counted + 1);
        Check.dueThrow("WORN", IllegalStateException.class, () -> m.full(0));
        Check.due("it was not", m.about(6), counted + 1);
        Check.due("nothing was kept", m.reads(1, 0, NONE, 0), 0);
    }

    private static void wornByUnlike() {
        MemberScores m = after(1997);
        Check.due("ZERO twice, ZERO and WORN, WORN twice", m.unlike(1), 1);
        Check.due("2000 FAULTS", m.about(8), 2000);
        MemberScores even = after(1996);
        Check.due("ZERO twice, WORN twice", even.unlike(1), 0);
        Check.due("2000 FAULTS, too", even.about(8), 2000);
    }

    private static void wornByUneven() {
        MemberScores m = after(1999);
        Make.rule(m, 3, Make.both(m, 12, Make.number(m, 1), Make.number(m, 0)));
        Check.due("ZERO and WORN, then WORN twice", m.uneven(4), 1);
        Check.due("2000 FAULTS", m.about(8), 2000);
        MemberScores once = after(1999);
        int a = Make.of(once, 3, Make.x(once));
        Make.rule(once, 3, Make.both(once, 12, Make.number(once, 1), a));
        once.set(0, 0, 1);
        Check.due("0, 1: MARK, ZERO; 0, 2 and all after: WORN", once.uneven(4), 1);
    }

    private static void countsFaultsOfAllCalls() {
        MemberScores m = Make.failing();
        m.unlike(1);
        Check.due("by unlike", m.about(8), 32);
        Make.rule(m, 3, Make.both(m, 12, Make.number(m, 1), Make.number(m, 0)));
        m.uneven(2);
        Check.due("by uneven", m.about(8), 32 + 240);
        m.turn(2, false);
        m.turn(1, true);
        Check.dueThrow("full", IllegalStateException.class, () -> m.full(1));
        Check.due("by full", m.about(8), 32 + 240 + 1);
        Check.dueThrow("score", IllegalStateException.class, () -> m.score(1));
        Check.due("by score", m.about(8), 32 + 240 + 1 + 16);
        m.turn(2, true);
        m.failed(0);
        Check.due("by failed", m.about(8), 32 + 240 + 1 + 16 + 120);
        dueZero("mark", m, 0, 0, 1);
        Check.due("by mark", m.about(8), 32 + 240 + 1 + 16 + 120 + 1);
        Make.fail(m, 2000 - 410);
        Check.due("2000 by whatever is asked", m.about(8), 2000);
        dueWorn("after them", m, 0, 15, 14);
    }

    private static void nothingIsRead() {
        MemberScores m = after(1999);
        m.mark(2, 0, NONE);
        Check.due("A is READ", m.reads(2, 0, NONE, 0), 1);
        Make.fail(m, 1);
        dueWorn("WORN, never worked", m, 2, 1, NONE);
        Check.due("nothing is READ by it", m.reads(2, 1, NONE, 1), 0);
        Check.due("what was READ before stands", m.reads(2, 0, NONE, 0), 1);
        m.set(0, 0, 1);
        Check.due("when FRESH, too", m.reads(2, 0, NONE, 0), 1);
        dueWorn("WORN, worked before", m, 2, 0, NONE);
        Check.due("0 if it is WORN", m.reads(2, 0, NONE, 0), 0);
    }

    private static void countStays() {
        MemberScores m = after(2000);
        int counted = m.about(6);
        Check.due("each FAULT worked COUNT", counted, 2000);
        dueWorn("COUNT", m, 3, 0, NONE);
        m.unlike(3);
        m.turn(3, true);
        m.failed(0);
        Check.dueThrow("full", IllegalStateException.class, () -> m.full(1));
        Check.due("COUNT stays", m.about(6), counted);
    }

    private static void whatCannotFailIsWorn() {
        MemberScores m = after(2000);
        Make.rule(m, 4, Make.number(m, 7));
        dueWorn("a number", m, 4, 1, 0);
        Check.due("all of it", m.failed(3), WORN);
        Check.due("from the first", m.failed(2), 1);
    }

    private static void whatIsKeptStands() {
        MemberScores m = after(1999);
        m.turn(2, true);
        m.turn(3, true);
        long score = m.score(1);
        Make.fail(m, 1);
        Check.due("SCORE of what is kept", m.score(1), score);
        Check.due("none failed", m.failed(0), NONE);
        Check.due("a MARK that is kept", m.mark(2, 15, NONE), 0);
        m.set(3, 0, 1);
        Check.due("the FRESH one is WORN", m.failed(1), 3);
        Check.due("the others stand", m.mark(2, 4, NONE), 0);
    }

    private static void wornIsKept() {
        MemberScores m = after(2000);
        int kept = m.about(5);
        m.turn(2, true);
        Check.due("FRESH", m.about(4), 16);
        dueWorn("one", m, 2, 7, NONE);
        Check.due("it is kept", m.about(5), kept + 1);
        Check.due("it is not FRESH", m.about(4), 15);
        dueWorn("the same", m, 2, 7, NONE);
        Check.due("it was kept once", m.about(5), kept + 1);
        m.failed(0);
        Check.due("all are kept", m.about(5), kept + 16);
        Check.due("none is FRESH", m.about(4), 0);
        Check.due("WORN is no FAULT in all", m.about(8), 2000);
    }

    private static void wornIsNotFreshAgain() {
        MemberScores m = after(1999);
        m.turn(2, true);
        m.score(1);
        Make.fail(m, 1);
        m.set(5, 0, 1);
        Check.due("FRESH by A", m.about(4), 1);
        dueWorn("WORN", m, 2, 5, NONE);
        m.set(5, 0, 2);
        Check.due("it READ nothing, so A makes it FRESH no more", m.about(4), 0);
        dueWorn("WORN still", m, 2, 5, NONE);
    }

    private static void wornIsAlike() {
        MemberScores m = after(2000);
        for (int rule = 0; rule <= 3; rule++) {
            Check.due("RULE " + rule, m.unlike(rule), 0);
        }
    }

    private static void wornIsEven() {
        MemberScores m = after(2000);
        Make.rule(m, 3, Make.of(m, 3, Make.x(m)));
        for (int i = 0; i < 16; i++) {
            m.set(i, 0, i);
        }
        Check.due("all pairs are WORN both ways", m.uneven(4), 0);
    }

    private static void fullIsWorn() {
        MemberScores m = after(1999);
        m.turn(2, true);
        m.score(1);
        Check.due("full before", m.full(1), 0);
        Make.fail(m, 1);
        Check.dueThrow("full after, though all is kept", IllegalStateException.class, () -> m.full(1));
        Check.due("SCORE after", m.score(1), 0);
    }

    private static void fullOfNoCallsIsNot() {
        MemberScores m = after(2000);
        Check.due("nothing is ON", m.full(0), 0);
        m.rule(2, 0, 1, Make.number(m, 7));
        Check.due("no LISTS", m.full(0), 0);
        Check.due("no LISTS, SETTLED", m.score(0), 0);
        Check.due("none failed", m.failed(3), NONE);
    }
}
