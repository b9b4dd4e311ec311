/** Promise 17: what is told about all of it. */
public final class AboutTest {
    public static void main(String[] args) {
        promise17Refusals();
        promise17Numbers();
        Check.end();
    }

    private static void promise17Refusals() {
        MemberScores m = new MemberScores();
        Check.due("about(-1)", m.about(-1), MemberScores.OUTSIDE);
        Check.due("about(9)", m.about(9), MemberScores.OUTSIDE);
        Check.due("about(MAX)", m.about(Integer.MAX_VALUE), MemberScores.OUTSIDE);
    }

    private static void dueAll(String when, MemberScores m, int... want) {
        for (int what = 0; what < want.length; what++) {
            Check.due(when + ", about(" + what + ")", m.about(what), want[what]);
        }
    }

    private static void promise17Numbers() {
        MemberScores m = new MemberScores();
        m.object(0);
        dueAll("a THING", m, 1, 0, 0, 0, 0, 0, 0, 2, 0);
        m.object(1);
        dueAll("a NODE", m, 2, 0, 0, 0, 0, 0, 0, 5, 0);
        m.object(2);
        dueAll("a LIST", m, 3, 0, 0, 0, 0, 0, 0, 9, 0);
        int x = m.expression(1, 0, 0, 0);
        int next = m.expression(5, x, 0, 0);
        int nextB = m.expression(4, next, 0, 0);
        int c = m.expression(17, 0, 0, 0);
        int sum = m.expression(8, c, nextB, 0);
        dueAll("EXPRESSIONS", m, 3, 5, 0, 0, 0, 0, 0, 9, 0);
        m.rule(0, 0, 1, sum);
        m.rule(1, 0, 1, sum);
        m.rule(3, 0, 1, c);
        m.turn(2, false);
        dueAll("RULES", m, 3, 5, 3, 5, 5, 0, 0, 9, 0);
        m.failed(0);
        dueAll("SETTLED, with FAULTS", m, 3, 5, 3, 5, 0, 5, 5, 9, 5);
        m.turn(2, true);
        dueAll("ON", m, 3, 5, 3, 8, 3, 5, 5, 9, 5);
        m.link(1, 0);
        m.link(2, 0);
        m.turn(0, false);
        dueAll("changed", m, 3, 5, 3, 5, 5, 5, 5, 9, 5);
        m.score(0);
        dueAll("SETTLED without FAULTS", m, 3, 5, 3, 5, 0, 10, 10, 9, 5);
        m.full(0);
        dueAll("in full", m, 3, 5, 3, 5, 0, 10, 15, 9, 5);
        m.unlike(0);
        dueAll("unlike, with 2 FAULTS", m, 3, 5, 3, 5, 0, 10, 21, 9, 7);
    }
}
