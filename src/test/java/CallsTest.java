import java.util.NoSuchElementException;

/** Promises 13 to 16: one CALL, what it read, and CALLS that tell unlike; and WORN. */
public final class CallsTest {
    private static final int NONE = MemberScores.NONE, UNKNOWN = MemberScores.UNKNOWN;
    private static final int OUTSIDE = MemberScores.OUTSIDE;

    public static void main(String[] args) {
        promise13NoSuchCall();
        promise13Mark();
        promise13Off();
        promise14Refusals();
        promise14Reads();
        promise15Unlike();
        promise15KeepsNothing();
        promise16Uneven();
        promise16Faults();
        worn();
        wornIsKept();
        wornInTheMidst();
        Check.end();
    }

    private static MemberScores objects(int number, int sort) {
        MemberScores m = new MemberScores();
        for (int i = 0; i < number; i++) {
            m.object(sort);
        }
        return m;
    }

    private static void promise13NoSuchCall() {
        MemberScores m = objects(2, 0);
        m.expression(0, 4, 0, 0);
        m.rule(0, 0, 1, 0);
        m.rule(3, 0, 1, 0);
        m.rule(4, 0, 1, 0);
        m.rule(1, 0, 1, 0);
        int[][] none = {{4, 0, -1}, {-1, 0, -1}, {0, 2, -1}, {0, -1, -1}, {0, 0, 0}, {0, 0, 1}, {0, 0, -2},
            {1, 0, 0}, {1, 1, 0}, {1, 0, -1}, {1, 0, 2}, {1, -1, 1}, {2, 1, 1}, {2, 2, 0}, {2, 0, -1}, {3, 0, -1},
            {1, Integer.MAX_VALUE, 1}, {2, 0, Integer.MIN_VALUE}};
        for (int[] n : none) {
            Check.dueThrow("mark " + n[0] + " " + n[1] + " " + n[2], NoSuchElementException.class,
                () -> m.mark(n[0], n[1], n[2]));
            Check.due("reads " + n[0] + " " + n[1] + " " + n[2], m.reads(n[0], n[1], n[2], 0), UNKNOWN);
        }
        Check.due("nothing was worked", m.about(5), 0);
        Check.due("mark of one alone", m.mark(0, 1, NONE), 4);
        Check.due("mark of a pair", m.mark(1, 0, 1), 4);
        Check.due("mark of a pair the other way", m.mark(2, 1, 0), 4);
        Check.due("three were worked", m.about(5), 3);
    }

    private static void promise13Mark() {
        MemberScores m = objects(2, 2);
        int x = m.expression(1, 0, 0, 0);
        int next = m.expression(5, x, 0, 0);
        int one = m.expression(0, 1, 0, 0);
        int place = m.expression(6, next, one, 0);
        m.rule(0, 0, 1, m.expression(11, one, place, 0));
        m.object(1);
        Check.dueThrow("EMPTY", NullPointerException.class, () -> m.mark(0, 0, NONE));
        m.link(0, 2);
        Check.dueThrow("CAST", ClassCastException.class, () -> m.mark(0, 0, NONE));
        m.link(0, 1);
        Check.dueThrow("no ROW", NullPointerException.class, () -> m.mark(0, 0, NONE));
        m.row(1, 1);
        Check.dueThrow("INDEX", ArrayIndexOutOfBoundsException.class, () -> m.mark(0, 0, NONE));
        m.row(1, 2);
        Check.dueThrow("ZERO", ArithmeticException.class, () -> m.mark(0, 0, NONE));
        Check.dueThrow("ZERO kept", ArithmeticException.class, () -> m.mark(0, 0, NONE));
        Check.due("worked five times", m.about(5), 5);
        Check.due("five FAULTS", m.about(8), 5);
        m.item(1, 1, -1);
        Check.due("mended", m.mark(0, 0, NONE), -1);
        Check.due("what it reads", m.reads(0, 0, NONE, 0), 4);
        Check.due("what it reads of NEXT", m.reads(0, 0, NONE, 1), 8);
    }

    private static void promise13Off() {
        MemberScores m = objects(1, 0);
        int x = m.expression(1, 0, 0, 0);
        m.rule(0, 0, 1, m.expression(3, x, 0, 0));
        m.turn(0, false);
        m.set(0, 0, 3);
        Check.due("off and FRESH", m.mark(0, 0, NONE), 3);
        Check.due("it is kept", m.about(5), 1);
        m.set(0, 0, 4);
        m.score(0);
        Check.due("not SETTLED when off", m.about(5), 1);
        Check.due("changed when off", m.mark(0, 0, NONE), 4);
        m.turn(0, true);
        Check.due("not FRESH when ON", m.about(4), 0);
    }

    private static void promise14Refusals() {
        MemberScores m = objects(2, 0);
        m.expression(0, 4, 0, 0);
        m.rule(0, 0, 1, 0);
        Check.due("no OBJECT", m.reads(0, 0, NONE, 2), UNKNOWN);
        Check.due("OBJECT -1", m.reads(0, 0, NONE, -1), UNKNOWN);
        Check.due("no RULE", m.reads(1, 0, NONE, 0), UNKNOWN);
        Check.due("never worked", m.reads(0, 0, NONE, 0), 0);
        Check.due("reads works nothing", m.about(5), 0);
    }

    private static void promise14Reads() {
        MemberScores m = objects(16, 2);
        int x = m.expression(1, 0, 0, 0);
        int y = m.expression(2, 0, 0, 0);
        int a = m.expression(3, x, 0, 0);
        int b = m.expression(4, y, 0, 0);
        int length = m.expression(7, y, 0, 0);
        int nextA = m.expression(3, m.expression(5, y, 0, 0), 0, 0);
        int all = m.expression(8, m.expression(8, a, b, 0), m.expression(8, nextA, length, 0), 0);
        m.rule(4, 0, 1, all);
        m.row(15, 2);
        m.link(15, 15);
        Check.due("told", m.mark(0, 14, 15), 2);
        Check.due("of X", m.reads(0, 14, 15, 14), 1);
        Check.due("of Y, the last OBJECT", m.reads(0, 14, 15, 15), 15);
        Check.due("of another", m.reads(0, 14, 15, 0), 0);
        Check.due("the other way round never worked", m.reads(0, 15, 14, 15), 0);
        m.row(15, NONE);
        Check.due("FRESH, it tells of the last time", m.reads(0, 14, 15, 15), 15);
        m.link(15, NONE);
        Check.dueThrow("worked to a FAULT", NullPointerException.class, () -> m.mark(0, 14, 15));
        Check.due("until the FAULT", m.reads(0, 14, 15, 15), 6);
        m.set(15, 1, 9);
        m.unlike(0);
        Check.dueThrow("full", IllegalStateException.class, () -> m.full(0));
        Check.due("what is not kept doesn't show", m.reads(0, 14, 15, 15), 6);
        Check.due("nor of what never was worked", m.reads(0, 0, 1, 0), 0);
    }

    private static void promise15Unlike() {
        MemberScores m = objects(3, 0);
        int x = m.expression(1, 0, 0, 0);
        int a = m.expression(3, x, 0, 0);
        int c = m.expression(17, 0, 0, 0);
        int two = m.expression(0, 2, 0, 0);
        int odd = m.expression(12, c, two, 0);
        int even = m.expression(0, 0, 0, 0);
        m.rule(0, 0, 1, a);
        m.rule(0, 0, 1, c);
        m.rule(0, 0, 1, m.expression(11, two, odd, 0));
        m.rule(0, 0, 1, m.expression(11, two, even, 0));
        m.rule(0, 0, 1, m.expression(10, m.expression(3, x, 0, 0), c, 0));
        Check.due("UNKNOWN", m.unlike(7), UNKNOWN);
        Check.due("UNKNOWN below", m.unlike(-1), UNKNOWN);
        Check.due("alike", m.unlike(0), 0);
        Check.due("unlike MARKS", m.unlike(1), 3);
        Check.due("a MARK and a FAULT", m.unlike(2), 3);
        Check.due("the same FAULT", m.unlike(3), 0);
        m.set(1, 0, 1);
        Check.due("one CALL alone", m.unlike(4), 1);
        m.turn(1, false);
        Check.due("off", m.unlike(1), 3);
        Check.due("FAULTS of all of it", m.about(8), 3 + 6);
        int y = m.expression(2, 0, 0, 0);
        m.rule(4, 0, 1, m.expression(14, x, y, 0));
        m.rule(3, 0, 1, m.expression(3, y, 0, 0));
        Check.due("X and Y are the same both times", m.unlike(5), 0);
        Check.due("A of Y both times", m.unlike(6), 0);
    }

    private static void promise15KeepsNothing() {
        MemberScores m = objects(2, 0);
        int c = m.expression(17, 0, 0, 0);
        int two = m.expression(0, 2, 0, 0);
        m.rule(4, 0, 1, m.expression(11, m.expression(9, c, two, 0), two, 0));
        Check.due("0, 1 tell -1, 0; 2, 3 tell 0, 0", m.unlike(0), 1);
        Check.due("FRESH still", m.about(4), 2);
        Check.due("not kept", m.about(5), 0);
        Check.due("COUNT goes on", m.about(6), 4);
        Check.due("the next COUNTS", m.score(0), 1 + 1);
    }

    private static void promise16Uneven() {
        MemberScores m = objects(3, 0);
        int x = m.expression(1, 0, 0, 0);
        int y = m.expression(2, 0, 0, 0);
        int xa = m.expression(3, x, 0, 0);
        int ya = m.expression(3, y, 0, 0);
        m.rule(3, 0, 1, m.expression(8, xa, ya, 0));
        m.rule(3, 0, 1, m.expression(9, xa, ya, 0));
        m.rule(4, 0, 1, xa);
        m.rule(0, 0, 1, xa);
        m.set(0, 0, 1);
        Check.due("UNKNOWN", m.uneven(4), UNKNOWN);
        Check.due("UNKNOWN below", m.uneven(-1), UNKNOWN);
        Check.due("OVER 4", m.uneven(2), OUTSIDE);
        Check.due("OVER 0", m.uneven(3), OUTSIDE);
        Check.due("even", m.uneven(0), 0);
        Check.due("uneven", m.uneven(1), 2);
        m.turn(1, false);
        Check.due("uneven when off", m.uneven(1), 2);
        Check.due("not kept", m.about(5), 0);
        Check.due("nothing READ is kept", m.reads(1, 0, 1, 0), 0);
    }

    private static void promise16Faults() {
        MemberScores m = objects(3, 1);
        int x = m.expression(1, 0, 0, 0);
        int y = m.expression(2, 0, 0, 0);
        int c = m.expression(17, 0, 0, 0);
        int nextA = m.expression(3, m.expression(5, x, 0, 0), 0, 0);
        int xa = m.expression(3, x, 0, 0);
        int ya = m.expression(3, y, 0, 0);
        m.rule(3, 0, 1, nextA);
        m.rule(3, 0, 1, m.expression(8, m.expression(11, xa, ya, 0), nextA, 0));
        m.rule(3, 0, 1, c);
        Check.due("the same FAULT", m.uneven(0), 0);
        m.link(1, 1);
        Check.due("a FAULT and a MARK", m.uneven(0), 2);
        m.set(0, 0, 1);
        Check.due("FAULTS EMPTY and ZERO, ZERO and EMPTY, ZERO both", m.uneven(1), 2);
        Check.due("COUNT tells unlike", m.uneven(2), 3);
        Check.due("each worked twice", m.about(6), 6);
    }

    /** 16 OBJECTS whose 240 CALLS all have FAULT ZERO, after COUNT. */
    private static MemberScores failing() {
        MemberScores m = objects(16, 0);
        int zero = m.expression(0, 0, 0, 0);
        int c = m.expression(17, 0, 0, 0);
        m.rule(4, 0, 1, m.expression(11, c, zero, 0));
        return m;
    }

    private static void worn() {
        MemberScores m = failing();
        for (int i = 0; i < 4; i++) {
            Check.due("the same FAULTS " + i, m.unlike(0), 0);
        }
        Check.due("FAULTS", m.about(8), 1920);
        Check.due("COUNTS", m.about(6), 1920);
        int x = m.expression(1, 0, 0, 0);
        int c = m.expression(17, 0, 0, 0);
        m.rule(0, 1, 1, m.expression(11, c, m.expression(3, x, 0, 0), 0));
        for (int i = 0; i < 5; i++) {
            m.unlike(1);
        }
        Check.due("no more than 2000 FAULTS", m.about(8), 2000);
        Check.due("COUNT stays", m.about(6), 2000);
        Check.dueThrow("WORN", IllegalStateException.class, () -> m.mark(0, 3, 2));
        Check.due("nothing is READ", m.reads(1, 0, NONE, 0), 0);
        Check.due("WORN is alike", m.unlike(0), 0);
        Check.dueThrow("full is WORN", IllegalStateException.class, () -> m.full(2));
        Check.due("failed(3)", m.failed(3), 4);
        Check.due("WORN ones are kept", m.about(5), 256);
        Check.due("none is FRESH", m.about(4), 0);
        Check.due("WORN is no FAULT more", m.about(8), 2000);
        Check.due("COUNT stays after all", m.about(6), 2000);
    }

    private static void wornIsKept() {
        MemberScores m = failing();
        int x = m.expression(1, 0, 0, 0);
        int a = m.expression(3, x, 0, 0);
        m.rule(0, 1, 1, a);
        m.turn(0, false);
        m.set(0, 0, 6);
        m.set(1, 0, 7);
        Check.due("kept before", m.score(1), 13);
        for (int i = 0; i < 5; i++) {
            m.unlike(0);
        }
        Check.due("worn now", m.about(8), 2000);
        Check.due("what is kept stands", m.score(1), 13);
        Check.due("what is kept is told", m.mark(1, 0, NONE), 6);
        m.set(0, 0, 5);
        Check.due("READ before", m.reads(1, 0, NONE, 0), 1);
        Check.dueThrow("FRESH now, so WORN", IllegalStateException.class, () -> m.mark(1, 0, NONE));
        Check.due("it READ nothing now", m.reads(1, 0, NONE, 0), 0);
        m.set(0, 0, 4);
        Check.due("WORN is never FRESH again", m.about(4), 0);
        Check.due("the first FAULT is X", m.failed(1), 0);
        Check.due("its FAULT", m.failed(3), 4);
        Check.due("another is as it was", m.mark(1, 1, NONE), 7);
    }

    private static void wornInTheMidst() {
        MemberScores m = failing();
        for (int i = 0; i < 4; i++) {
            m.unlike(0);
        }
        int zero = m.expression(0, 0, 0, 0);
        m.rule(0, 1, 1, m.expression(12, zero, zero, 0));
        m.unlike(1);
        m.unlike(1);
        Check.due("1984 FAULTS", m.about(8), 1984);
        Check.due("15 ZERO more", fifteen(m), 15);
        Check.due("1999 FAULTS", m.about(8), 1999);
        Check.due("ZERO, then WORN, tell unlike", m.unlike(1), 1);
        Check.due("2000 FAULTS", m.about(8), 2000);
        m.rule(0, 2, 1, zero);
        m.turn(0, false);
        Check.due("a RULE that can't fail is WORN, too; the first is", m.failed(3), 3);
        m.turn(1, false);
        Check.due("its RULE", m.failed(0), 2);
        Check.due("its FAULT", m.failed(3), 4);
        Check.due("all of it SETTLED", m.about(4), 0);
    }

    private static int fifteen(MemberScores m) {
        int failed = 0;
        for (int x = 0; x < 15; x++) {
            try {
                m.mark(1, x, NONE);
            } catch (ArithmeticException e) {
                failed++;
            }
        }
        return failed;
    }
}
