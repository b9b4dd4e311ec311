/** Promises 8 and 9: RULES, over which CALLS they are, and turning them. */
public final class RulesTest {
    private static final int NONE = MemberScores.NONE, UNKNOWN = MemberScores.UNKNOWN;
    private static final int OUTSIDE = MemberScores.OUTSIDE, ROOM = MemberScores.ROOM;

    public static void main(String[] args) {
        promise8Refusals();
        promise8Room();
        promise8Over();
        promise8OverGrows();
        promise9Turn();
        Check.end();
    }

    private static void promise8Refusals() {
        MemberScores m = new MemberScores();
        int x = m.expression(1, 0, 0, 0);
        int n = m.expression(0, 1, 0, 0);
        int y = m.expression(2, 0, 0, 0);
        int next = m.expression(5, x, 0, 0);
        Check.due("UNKNOWN", m.rule(0, 0, 0, 4), UNKNOWN);
        Check.due("UNKNOWN first", m.rule(9, 9, 9999, -1), UNKNOWN);
        Check.due("over -1", m.rule(-1, 0, 0, n), OUTSIDE);
        Check.due("over 5", m.rule(5, 0, 0, n), OUTSIDE);
        Check.due("level -1", m.rule(0, -1, 0, n), OUTSIDE);
        Check.due("level 3", m.rule(0, 3, 0, n), OUTSIDE);
        Check.due("weight 1001", m.rule(0, 0, 1001, n), OUTSIDE);
        Check.due("weight -1001", m.rule(0, 0, -1001, n), OUTSIDE);
        Check.due("X is no int", m.rule(0, 0, 0, x), OUTSIDE);
        Check.due("Y is no int", m.rule(0, 0, 0, y), OUTSIDE);
        Check.due("NEXT is no int", m.rule(0, 0, 0, next), OUTSIDE);
        Check.due("about(2)", m.about(2), 0);
        Check.due("weight 1000", m.rule(4, 2, 1000, n), 0);
        Check.due("weight -1000", m.rule(0, 0, -1000, n), 1);
    }

    private static void promise8Room() {
        MemberScores m = new MemberScores();
        m.expression(0, 1, 0, 0);
        for (int i = 0; i < 8; i++) {
            Check.due("rule " + i, m.rule(i % 5, i % 3, i, 0), i);
        }
        Check.due("the 9th", m.rule(0, 0, 1, 0), ROOM);
        Check.due("the 9th, UNKNOWN", m.rule(0, 0, 1, 1), UNKNOWN);
        Check.due("the 9th, OUTSIDE", m.rule(0, 0, 1001, 0), OUTSIDE);
        Check.due("about(2)", m.about(2), 8);
    }

    private static boolean isCall(MemberScores m, int rule, int x, int y) {
        return m.reads(rule, x, y, 0) != UNKNOWN;
    }

    private static void promise8Over() {
        MemberScores m = new MemberScores();
        m.expression(0, 1, 0, 0);
        int[] sorts = {2, 0, 1, 2, 1};
        for (int sort : sorts) {
            m.object(sort);
        }
        for (int over = 0; over <= 4; over++) {
            m.rule(over, 0, 1, 0);
        }
        for (int x = -1; x <= sorts.length; x++) {
            for (int y = -2; y <= sorts.length; y++) {
                boolean hasX = x >= 0 && x < sorts.length;
                boolean hasY = y >= 0 && y < sorts.length;
                for (int over = 0; over <= 2; over++) {
                    boolean want = hasX && y == NONE && sorts[x] >= over;
                    Check.due("over " + over + " " + x + " " + y, isCall(m, over, x, y) ? 1 : 0, want ? 1 : 0);
                }
                Check.due("over 3 " + x + " " + y, isCall(m, 3, x, y) ? 1 : 0, hasX && hasY && x < y ? 1 : 0);
                Check.due("over 4 " + x + " " + y, isCall(m, 4, x, y) ? 1 : 0, hasX && hasY && x != y ? 1 : 0);
            }
        }
        Check.due("about(3)", m.about(3), 5 + 4 + 2 + 10 + 20);
        Check.due("score", m.score(0), 41);
    }

    private static void promise8OverGrows() {
        MemberScores m = new MemberScores();
        int x = m.expression(1, 0, 0, 0);
        m.rule(4, 1, 3, m.expression(3, x, 0, 0));
        Check.due("no OBJECTS", m.score(1), 0);
        m.object(0);
        m.set(0, 0, 2);
        Check.due("one OBJECT, no pair", m.about(3), 0);
        m.object(0);
        m.set(1, 0, 3);
        Check.due("one pair both ways", m.score(1), 15);
        m.object(0);
        Check.due("new CALLS alone are FRESH", m.about(4), 4);
        Check.due("three OBJECTS", m.score(1), 30);
        Check.due("each worked once", m.about(5), 6);
    }

    private static void promise9Turn() {
        MemberScores m = new MemberScores();
        m.expression(0, 5, 0, 0);
        m.object(0);
        m.rule(0, 0, 1, 0);
        m.rule(0, 0, 10, 0);
        Check.due("turn UNKNOWN", m.turn(2, true), UNKNOWN);
        Check.due("turn -1", m.turn(-1, false), UNKNOWN);
        Check.due("ON at first", m.turn(0, true), 0);
        Check.due("both", m.score(0), 55);
        Check.due("off", m.turn(1, false), 1);
        Check.due("off again", m.turn(1, false), 0);
        Check.due("one", m.score(0), 5);
        Check.due("one in full", m.full(0), 5);
        Check.due("CALLS of one", m.about(3), 1);
        Check.due("ON again", m.turn(1, true), 1);
        Check.due("what was kept is kept", m.about(4), 0);
        Check.due("both again", m.score(0), 55);
        Check.due("worked once", m.about(5), 2);
    }
}
