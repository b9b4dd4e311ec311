/** Makes what the tests at the edges need again and again. */
final class Make {
    static final int MIN = Integer.MIN_VALUE, MAX = Integer.MAX_VALUE;

    private Make() {
    }

    static MemberScores objects(int... sorts) {
        MemberScores m = new MemberScores();
        for (int sort : sorts) {
            m.object(sort);
        }
        return m;
    }

    static MemberScores alike(int number, int sort) {
        MemberScores m = new MemberScores();
        for (int i = 0; i < number; i++) {
            m.object(sort);
        }
        return m;
    }

    static int number(MemberScores m, int n) {
        return m.expression(0, n, 0, 0);
    }

    static int x(MemberScores m) {
        return m.expression(1, 0, 0, 0);
    }

    static int y(MemberScores m) {
        return m.expression(2, 0, 0, 0);
    }

    static int count(MemberScores m) {
        return m.expression(17, 0, 0, 0);
    }

    /** An int or an OBJECT of the OBJECT that a tells: 3 A, 4 B, 5 NEXT, 7 the length of its ROW. */
    static int of(MemberScores m, int kind, int a) {
        return m.expression(kind, a, 0, 0);
    }

    static int both(MemberScores m, int kind, int a, int b) {
        return m.expression(kind, a, b, 0);
    }

    /** A RULE of LEVEL 0 and WEIGHT 1. */
    static int rule(MemberScores m, int over, int expression) {
        return m.rule(over, 0, 1, expression);
    }

    /** 16 THINGS, and RULES 0 OVER 4, 1 OVER 0, both off, whose CALLS all work COUNT and then have FAULT ZERO. */
    static MemberScores failing() {
        MemberScores m = alike(16, 0);
        int fails = both(m, 11, count(m), number(m, 0));
        rule(m, 4, fails);
        rule(m, 0, fails);
        m.turn(0, false);
        m.turn(1, false);
        return m;
    }

    /** So many FAULTS more of failing(): 480 or 32 at a time, the last ones by CALLS that were never worked. */
    static void fail(MemberScores m, int faults) {
        int want = m.about(8) + faults;
        for (int i = 0; i < faults / 480; i++) {
            m.unlike(0);
        }
        for (int i = 0; i < faults % 480 / 32; i++) {
            m.unlike(1);
        }
        for (int call = 0; call < 256 && m.about(8) < want; call++) {
            if (call / 16 != call % 16) {
                markThatFails(m, call / 16, call % 16);
            }
        }
        Check.due("FAULTS so far", m.about(8), want);
    }

    private static void markThatFails(MemberScores m, int x, int y) {
        try {
            m.mark(0, x, y);
        } catch (ArithmeticException e) {
            return;
        }
        throw new IllegalStateException("the CALL told something");
    }
}
