/** Promises 10, 11 and 12: scores, what failed, scores worked anew. */
public final class ScoresTest {
    private static final int NONE = MemberScores.NONE, OUTSIDE = MemberScores.OUTSIDE;

    public static void main(String[] args) {
        promise10Levels();
        promise10Settles();
        promise10Long();
        promise10Faults();
        promise11Failed();
        promise11First();
        promise12Full();
        promise12AfterAFault();
        Check.end();
    }

    private static void promise10Levels() {
        MemberScores m = new MemberScores();
        m.object(0);
        m.object(0);
        for (int i = 0; i < 4; i++) {
            m.expression(0, i + 1, 0, 0);
        }
        m.rule(0, 0, 10, 0);
        m.rule(0, 1, -10, 1);
        m.rule(3, 2, 7, 2);
        m.rule(4, 0, 1000, 3);
        Check.due("level 0", m.score(0), 2 * 10 + 2 * 4000);
        Check.due("level 1", m.score(1), -40);
        Check.due("level 2", m.score(2), 21);
        Check.dueThrow("level 3", IllegalArgumentException.class, () -> m.score(3));
        Check.dueThrow("level -1", IllegalArgumentException.class, () -> m.score(-1));
        Check.dueThrow("full level 3", IllegalArgumentException.class, () -> m.full(3));
        Check.dueThrow("full level -1", IllegalArgumentException.class, () -> m.full(-1));
    }

    private static void promise10Settles() {
        MemberScores m = new MemberScores();
        m.object(0);
        m.object(0);
        int x = m.expression(1, 0, 0, 0);
        int a = m.expression(3, x, 0, 0);
        int c = m.expression(17, 0, 0, 0);
        m.rule(0, 0, 1, a);
        m.rule(0, 1, 1, c);
        Check.dueThrow("no level", IllegalArgumentException.class, () -> m.score(9));
        Check.due("no level settles nothing", m.about(4), 4);
        m.score(2);
        Check.due("any level settles all", m.about(4), 0);
        Check.due("kept", m.about(5), 4);
        m.set(0, 0, 5);
        Check.due("what it touches is FRESH", m.about(4), 1);
        Check.due("worked again", m.score(0), 5);
        Check.due("only it", m.about(5), 5);
        Check.due("COUNT is not worked again", m.score(1), 1);
        m.set(0, 0, 6);
        m.set(0, 0, 5);
        Check.due("changed there and back is FRESH", m.about(4), 1);
    }

    private static void promise10Long() {
        MemberScores m = new MemberScores();
        for (int i = 0; i < 16; i++) {
            m.object(0);
        }
        m.expression(0, Integer.MIN_VALUE, 0, 0);
        m.rule(4, 0, 1000, 0);
        m.rule(4, 0, 1000, 0);
        Check.due("a long", m.score(0), 480L * 1000 * Integer.MIN_VALUE);
        Check.due("a long in full", m.full(0), 480L * 1000 * Integer.MIN_VALUE);
    }

    private static void promise10Faults() {
        MemberScores m = new MemberScores();
        m.object(0);
        int x = m.expression(1, 0, 0, 0);
        int a = m.expression(3, x, 0, 0);
        int one = m.expression(0, 1, 0, 0);
        m.rule(0, 0, 1, m.expression(11, one, a, 0));
        m.rule(0, 2, 1, one);
        Check.dueThrow("a FAULT of another level", IllegalStateException.class, () -> m.score(2));
        Check.due("all is SETTLED then, too", m.about(4), 0);
        Check.dueThrow("no level before a FAULT", IllegalArgumentException.class, () -> m.score(3));
        Check.dueThrow("full, a FAULT of another level", IllegalStateException.class, () -> m.full(2));
        m.turn(0, false);
        Check.due("off", m.score(2), 1);
        Check.due("off in full", m.full(2), 1);
        m.turn(0, true);
        m.set(0, 0, 1);
        Check.due("mended", m.score(2), 1);
        Check.due("mended in full", m.full(0), 1);
    }

    private static void promise11Failed() {
        MemberScores m = new MemberScores();
        m.object(0);
        m.object(0);
        int x = m.expression(1, 0, 0, 0);
        int y = m.expression(2, 0, 0, 0);
        int a = m.expression(3, x, 0, 0);
        int b = m.expression(4, y, 0, 0);
        m.rule(0, 0, 1, a);
        Check.due("failed(-1)", m.failed(-1), OUTSIDE);
        Check.due("failed(4)", m.failed(4), OUTSIDE);
        Check.due("nothing is SETTLED", m.about(4), 2);
        for (int what = 0; what <= 3; what++) {
            Check.due("none failed " + what, m.failed(what), NONE);
        }
        Check.due("all is SETTLED", m.about(4), 0);
        m.rule(4, 0, 1, m.expression(12, a, b, 0));
        m.set(1, 1, 1);
        Check.due("RULE", m.failed(0), 1);
        Check.due("X", m.failed(1), 1);
        Check.due("Y", m.failed(2), 0);
        Check.due("FAULT", m.failed(3), 3);
        m.rule(0, 0, 1, b);
        m.turn(1, false);
        Check.due("RULE of one alone", m.failed(0), 2);
        Check.due("X of one alone", m.failed(1), 0);
        Check.due("Y of one alone", m.failed(2), NONE);
        Check.due("FAULT of one alone", m.failed(3), 0);
        m.turn(2, false);
        Check.due("all that fail are off", m.failed(0), NONE);
    }

    private static void promise11First() {
        MemberScores m = new MemberScores();
        for (int i = 0; i < 3; i++) {
            m.object(0);
            m.set(i, 0, 1);
            m.set(i, 1, 1);
        }
        int x = m.expression(1, 0, 0, 0);
        int y = m.expression(2, 0, 0, 0);
        int a = m.expression(3, x, 0, 0);
        int b = m.expression(4, y, 0, 0);
        int product = m.expression(10, a, b, 0);
        m.rule(3, 0, 1, m.expression(11, a, product, 0));
        Check.due("none", m.failed(0), NONE);
        m.set(2, 1, 0);
        Check.due("first X", m.failed(1), 0);
        Check.due("first Y", m.failed(2), 2);
        m.set(1, 1, 0);
        Check.due("then by Y", m.failed(2), 1);
        m.set(0, 0, 0);
        m.set(1, 1, 1);
        m.set(2, 1, 1);
        Check.due("both of X 0, the first Y", m.failed(2), 1);
        m.set(0, 0, 1);
        m.set(1, 0, 0);
        Check.due("X 1", m.failed(1), 1);
    }

    private static void promise12Full() {
        MemberScores m = new MemberScores();
        m.object(0);
        m.object(0);
        int x = m.expression(1, 0, 0, 0);
        int a = m.expression(3, x, 0, 0);
        int c = m.expression(17, 0, 0, 0);
        m.rule(0, 0, 2, a);
        m.rule(0, 1, 1, c);
        m.set(0, 0, 4);
        Check.due("full of FRESH", m.full(0), 8);
        Check.due("nothing is kept", m.about(4), 4);
        Check.due("no CALL is kept", m.about(5), 0);
        Check.due("nothing READ is kept", m.reads(0, 0, NONE, 0), 0);
        Check.due("COUNT of the other level goes on", m.about(6), 2);
        Check.due("COUNT", m.full(1), 2 + 3);
        Check.due("kept COUNT", m.score(1), 4 + 5);
        Check.due("full is worked anew", m.full(1), 6 + 7);
        Check.due("kept COUNT stays", m.score(1), 4 + 5);
        m.turn(1, false);
        Check.due("off is not worked", m.full(1), 0);
        Check.due("COUNT stays", m.about(6), 8);
        m.set(0, 0, 5);
        Check.due("full sees what changed", m.full(0), 10);
        Check.due("it is FRESH still", m.about(4), 1);
    }

    private static void promise12AfterAFault() {
        MemberScores m = new MemberScores();
        m.object(0);
        m.object(0);
        int x = m.expression(1, 0, 0, 0);
        int a = m.expression(3, x, 0, 0);
        int c = m.expression(17, 0, 0, 0);
        int sum = m.expression(9, c, c, 0);
        int counted = m.expression(8, sum, a, 0);
        m.rule(0, 0, 1, c);
        m.rule(0, 0, 1, m.expression(11, c, counted, 0));
        m.rule(0, 0, 1, c);
        m.set(0, 0, 1);
        m.set(1, 0, 1);
        Check.dueThrow("the first CALL of RULE 1 fails", IllegalStateException.class, () -> m.full(0));
        Check.due("2 COUNTS of RULE 0, 3 of that CALL", m.about(6), 5);
        Check.due("one FAULT", m.about(8), 1);
        Check.due("no FAULT is kept", m.about(4), 6);
        m.rule(0, 2, 1, c);
        Check.dueThrow("of whatever LEVEL", IllegalStateException.class, () -> m.full(2));
    }
}
