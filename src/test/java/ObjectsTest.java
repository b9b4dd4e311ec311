/** Promises 1 to 6: the OBJECTS and what is changed in them. */
public final class ObjectsTest {
    private static final int NONE = MemberScores.NONE, UNKNOWN = MemberScores.UNKNOWN;
    private static final int OUTSIDE = MemberScores.OUTSIDE, ROOM = MemberScores.ROOM;

    public static void main(String[] args) {
        constants();
        promise1NewObject();
        promise2Object();
        promise3Set();
        promise4Link();
        promise5Row();
        promise6Item();
        Check.end();
    }

    private static MemberScores oneOfEachSort() {
        MemberScores m = new MemberScores();
        m.object(0);
        m.object(1);
        m.object(2);
        return m;
    }

    private static void constants() {
        Check.due("NONE", NONE, -1);
        Check.due("UNKNOWN", UNKNOWN, -101);
        Check.due("OUTSIDE", OUTSIDE, -102);
        Check.due("ROOM", ROOM, -104);
    }

    private static void promise1NewObject() {
        MemberScores m = new MemberScores();
        for (int what = 0; what <= 8; what++) {
            Check.due("new about(" + what + ")", m.about(what), 0);
        }
        for (int level = 0; level <= 2; level++) {
            Check.due("new score(" + level + ")", m.score(level), 0);
            Check.due("new full(" + level + ")", m.full(level), 0);
        }
        Check.due("new failed(0)", m.failed(0), NONE);
        Check.due("new set(0)", m.set(0, 0, 1), UNKNOWN);
        Check.due("new turn(0)", m.turn(0, true), UNKNOWN);
        Check.due("new rule(.. 0)", m.rule(0, 0, 1, 0), UNKNOWN);
        MemberScores other = new MemberScores();
        m.object(0);
        Check.due("another's about(0)", other.about(0), 0);
    }

    private static void promise2Object() {
        MemberScores m = new MemberScores();
        Check.due("object(-1)", m.object(-1), OUTSIDE);
        Check.due("object(3)", m.object(3), OUTSIDE);
        Check.due("object(MIN)", m.object(Integer.MIN_VALUE), OUTSIDE);
        for (int i = 0; i < 16; i++) {
            Check.due("object " + i, m.object(i % 3), i);
        }
        Check.due("the 17th object", m.object(0), ROOM);
        Check.due("the 17th object, of no sort", m.object(3), OUTSIDE);
        Check.due("about(0) of 16", m.about(0), 16);
        Check.due("about(7) of 16", m.about(7), 6 * 2 + 5 * 3 + 5 * 4);
        Check.due("the last object is there", m.set(15, 0, 1), 1);
    }

    private static void promise3Set() {
        MemberScores m = oneOfEachSort();
        Check.due("set UNKNOWN", m.set(3, 0, 1), UNKNOWN);
        Check.due("set UNKNOWN below", m.set(-1, 0, 1), UNKNOWN);
        Check.due("set UNKNOWN first", m.set(3, 9, 1), UNKNOWN);
        Check.due("set field 2", m.set(2, 2, 1), OUTSIDE);
        Check.due("set field -1", m.set(2, -1, 1), OUTSIDE);
        Check.due("set A to 0", m.set(0, 0, 0), 0);
        Check.due("set A", m.set(0, 0, 7), 1);
        Check.due("set A again", m.set(0, 0, 7), 0);
        Check.due("B is not A", m.set(0, 1, 7), 1);
        Check.due("set to the least int", m.set(0, 1, Integer.MIN_VALUE), 1);
        int x = m.expression(1, 0, 0, 0);
        int a = m.expression(3, x, 0, 0);
        int b = m.expression(4, x, 0, 0);
        m.rule(0, 0, 1, a);
        m.rule(0, 0, 1, b);
        Check.due("A told", m.mark(0, 0, NONE), 7);
        Check.due("B told", m.mark(1, 0, NONE), Integer.MIN_VALUE);
        Check.due("A of another", m.mark(0, 1, NONE), 0);
        m.score(0);
        m.set(0, 0, 7);
        Check.due("no other int, nothing FRESH", m.about(4), 0);
        m.set(0, 0, 8);
        Check.due("A changed, one CALL is FRESH", m.about(4), 1);
        m.set(0, 0, 7);
        m.score(0);
        m.set(1, 1, 2);
        Check.due("B changed, one CALL is FRESH", m.about(4), 1);
        m.set(0, 2, 5);
        m.set(5, 1, 5);
        Check.due("what is refused changes nothing", m.about(4), 1);
    }

    private static void promise4Link() {
        MemberScores m = oneOfEachSort();
        Check.due("link UNKNOWN", m.link(3, 0), UNKNOWN);
        Check.due("link to UNKNOWN", m.link(1, 3), UNKNOWN);
        Check.due("link to -2", m.link(1, -2), UNKNOWN);
        Check.due("link of a THING to UNKNOWN", m.link(0, 3), UNKNOWN);
        Check.due("link of a THING", m.link(0, 1), OUTSIDE);
        Check.due("link of a THING to NONE", m.link(0, NONE), OUTSIDE);
        Check.due("link to NONE at first", m.link(1, NONE), 0);
        Check.due("link to 0", m.link(1, 0), 1);
        Check.due("link to 0 again", m.link(1, 0), 0);
        Check.due("link of a LIST to itself", m.link(2, 2), 1);
        m.set(0, 0, 5);
        m.set(2, 0, 6);
        int x = m.expression(1, 0, 0, 0);
        int next = m.expression(5, x, 0, 0);
        int a = m.expression(3, next, 0, 0);
        m.rule(1, 0, 1, a);
        Check.due("A of NEXT", m.score(0), 11);
        m.link(1, 0);
        Check.due("the same NEXT, nothing FRESH", m.about(4), 0);
        m.link(1, 2);
        Check.due("another NEXT, one FRESH", m.about(4), 1);
        Check.due("A of another NEXT", m.score(0), 12);
        Check.due("link to NONE", m.link(1, NONE), 1);
        Check.due("NEXT is none", m.failed(3), 0);
    }

    private static void promise5Row() {
        MemberScores m = oneOfEachSort();
        Check.due("row UNKNOWN", m.row(3, 1), UNKNOWN);
        Check.due("row UNKNOWN first", m.row(-1, 9), UNKNOWN);
        Check.due("row of a NODE", m.row(1, 1), OUTSIDE);
        Check.due("row of a THING", m.row(0, NONE), OUTSIDE);
        Check.due("row of 9", m.row(2, 9), OUTSIDE);
        Check.due("row of -2", m.row(2, -2), OUTSIDE);
        Check.due("row NONE of none", m.row(2, NONE), NONE);
        Check.due("row of 8", m.row(2, 8), NONE);
        for (int i = 0; i < 8; i++) {
            Check.due("item of 8", m.item(2, i, i + 1), 1);
        }
        Check.due("no place 8", m.item(2, 8, 1), OUTSIDE);
        Check.due("row of 0", m.row(2, 0), 8);
        Check.due("no place 0 of 0", m.item(2, 0, 1), OUTSIDE);
        Check.due("row of 3", m.row(2, 3), 0);
        for (int i = 0; i < 3; i++) {
            Check.due("zeros again", m.item(2, i, 0), 0);
        }
        Check.due("row NONE", m.row(2, NONE), 3);
        Check.due("no place in none", m.item(2, 0, 1), OUTSIDE);
        int x = m.expression(1, 0, 0, 0);
        int length = m.expression(7, x, 0, 0);
        m.rule(2, 0, 1, length);
        Check.due("no ROW", m.failed(3), 0);
        m.row(2, NONE);
        Check.due("none to none is changed", m.about(4), 1);
        m.row(2, 4);
        Check.due("length told", m.score(0), 4);
        m.row(2, 4);
        Check.due("4 zeros to 4 zeros is changed", m.about(4), 1);
        m.score(0);
        m.row(2, 9);
        Check.due("what is refused changes nothing", m.about(4), 0);
    }

    private static void promise6Item() {
        MemberScores m = oneOfEachSort();
        m.row(2, 2);
        Check.due("item UNKNOWN", m.item(3, 0, 1), UNKNOWN);
        Check.due("item UNKNOWN below", m.item(-1, 0, 1), UNKNOWN);
        Check.due("item of a NODE", m.item(1, 0, 1), OUTSIDE);
        Check.due("item of a THING", m.item(0, 0, 1), OUTSIDE);
        Check.due("item -1", m.item(2, -1, 1), OUTSIDE);
        Check.due("item 2 of 2", m.item(2, 2, 1), OUTSIDE);
        Check.due("item MAX", m.item(2, Integer.MAX_VALUE, 1), OUTSIDE);
        Check.due("item to 0", m.item(2, 1, 0), 0);
        Check.due("item to 5", m.item(2, 1, 5), 1);
        Check.due("item to 5 again", m.item(2, 1, 5), 0);
        int x = m.expression(1, 0, 0, 0);
        int one = m.expression(0, 1, 0, 0);
        int place = m.expression(6, x, one, 0);
        m.rule(2, 0, 1, place);
        Check.due("item told", m.score(0), 5);
        m.item(2, 1, 5);
        Check.due("the same int, nothing FRESH", m.about(4), 0);
        m.item(2, 0, 5);
        Check.due("another place of the ROW, FRESH", m.about(4), 1);
        Check.due("the place told is the same", m.score(0), 5);
    }
}
