/** Promises 1 to 6 at their edges; a sentence of the document, or a part of one, stands above the tests of it. */
public final class ObjectEdgesTest {
    private static final int NONE = MemberScores.NONE, UNKNOWN = MemberScores.UNKNOWN;
    private static final int OUTSIDE = MemberScores.OUTSIDE, ROOM = MemberScores.ROOM;
    private static final int MIN = Make.MIN, MAX = Make.MAX;
    private static final int THING = 0, NODE = 1, LIST = 2;

    public static void main(String[] args) {
        newHasNoObjects();
        newHasNoExpressions();
        newHasNoRules();
        newSharesNothing();
        objectIsNumberedFrom0();
        objectTheSixteenthIsTheLast();
        objectOfNoSort();
        objectOfNoSortWhenFull();
        objectAllIntsAre0AtFirst();
        objectNextAndRowAreNoneAtFirst();
        setNoObject();
        setNoField();
        setUnknownBeforeOutside();
        setTheSameOrAnother();
        setWhatIsRefusedStays();
        setIsChangedOnlyIfAnother();
        linkNoObject();
        linkToNoObject();
        linkOfWhatHasNoNext();
        linkUnknownBeforeOutside();
        linkTheSameOrAnother();
        linkIsChangedOnlyIfAnother();
        rowNoObject();
        rowOfWhatIsNoList();
        rowTooShortOrTooLong();
        rowUnknownBeforeOutside();
        rowHowManyItHad();
        rowBecomesZeros();
        rowIsChangedInAnyCase();
        rowWhatIsRefusedStays();
        itemNoObject();
        itemOfWhatIsNoList();
        itemOfNoRow();
        itemOfAnEmptyRow();
        itemNoSuchPlace();
        itemTheSameOrAnother();
        itemIsChangedOnlyIfAnother();
        Check.end();
    }

    /** RULE 0 tells A, 1 tells B, 2 tells the length of the ROW, 3 whether NEXT is none, 4 the place A of the ROW. */
    private static MemberScores told(int... sorts) {
        MemberScores m = Make.objects(sorts);
        int x = Make.x(m);
        int next = Make.of(m, 5, x);
        int a = Make.of(m, 3, x);
        Make.rule(m, 0, a);
        Make.rule(m, 0, Make.of(m, 4, x));
        Make.rule(m, 2, Make.of(m, 7, x));
        Make.rule(m, 1, Make.both(m, 14, next, Make.y(m)));
        Make.rule(m, 2, Make.both(m, 6, x, a));
        return m;
    }

    private static int a(MemberScores m, int object) {
        return m.mark(0, object, NONE);
    }

    private static int b(MemberScores m, int object) {
        return m.mark(1, object, NONE);
    }

    private static int length(MemberScores m, int object) {
        return m.mark(2, object, NONE);
    }

    private static boolean hasNext(MemberScores m, int object) {
        return m.mark(3, object, NONE) == 0;
    }

    /** Works all CALLS, so that those that are FRESH later on are so by a change. */
    private static MemberScores settled(MemberScores m) {
        m.failed(0);
        Check.due("nothing is FRESH", m.about(4), 0);
        return m;
    }

    // Promise 1: No OBJECTS, EXPRESSIONS, RULES.

    private static void newHasNoObjects() {
        MemberScores m = new MemberScores();
        Check.due("about(0) of a new one", m.about(0), 0);
        Check.due("set of a new one", m.set(0, 0, 0), UNKNOWN);
        Check.due("link of a new one", m.link(0, NONE), UNKNOWN);
        Check.due("row of a new one", m.row(0, 0), UNKNOWN);
        Check.due("item of a new one", m.item(0, 0, 0), UNKNOWN);
        Check.due("fields of a new one", m.about(7), 0);
    }

    private static void newHasNoExpressions() {
        MemberScores m = new MemberScores();
        Check.due("about(1) of a new one", m.about(1), 0);
        for (int kind = 3; kind <= 16; kind++) {
            Check.due("kind " + kind + " of a new one", m.expression(kind, 0, 0, 0), UNKNOWN);
        }
        Check.due("rule of a new one", m.rule(0, 0, 0, 0), UNKNOWN);
    }

    private static void newHasNoRules() {
        MemberScores m = Make.objects(THING, THING);
        Check.due("about(2) of a new one", m.about(2), 0);
        Check.due("about(3) of a new one", m.about(3), 0);
        Check.due("turn of a new one", m.turn(0, false), UNKNOWN);
        Check.due("reads of a new one", m.reads(0, 0, 1, 0), UNKNOWN);
        Check.due("unlike of a new one", m.unlike(0), UNKNOWN);
        Check.due("uneven of a new one", m.uneven(0), UNKNOWN);
        Check.dueThrow("mark of a new one", java.util.NoSuchElementException.class, () -> m.mark(0, 0, NONE));
        Check.due("score of a new one", m.score(2), 0);
        Check.due("full of a new one", m.full(2), 0);
        Check.due("failed of a new one", m.failed(3), NONE);
    }

    private static void newSharesNothing() {
        MemberScores m = told(LIST);
        m.set(0, 0, 9);
        m.unlike(0);
        settled(m);
        MemberScores other = new MemberScores();
        for (int what = 0; what <= 8; what++) {
            Check.due("another's about(" + what + ")", other.about(what), 0);
        }
        Check.due("another's first OBJECT", other.object(THING), 0);
        Check.due("its A is another one", other.set(0, 0, 9), 1);
    }

    // Promise 2: An OBJECT: its number. OUTSIDE, ROOM. Terms: OBJECTS 0, 1, .. (16 at most) are of a SORT 0, 1, 2.

    private static void objectIsNumberedFrom0() {
        MemberScores m = new MemberScores();
        Check.due("a LIST first", m.object(LIST), 0);
        Check.due("refused", m.object(3), OUTSIDE);
        Check.due("what is refused takes no number", m.object(THING), 1);
        Check.due("a NODE", m.object(NODE), 2);
    }

    private static void objectTheSixteenthIsTheLast() {
        for (int sort = THING; sort <= LIST; sort++) {
            MemberScores m = Make.alike(15, sort);
            Check.due("the 16th", m.object(sort), 15);
            Check.due("the 17th", m.object(sort), ROOM);
            Check.due("the 17th again", m.object(THING), ROOM);
            Check.due("16 stand", m.about(0), 16);
            Check.due("FIELDS of 16", m.about(7), 16 * (2 + sort));
            Check.due("the 16th is there", m.set(15, 1, 1), 1);
            Check.due("the 17th is not", m.set(16, 1, 1), UNKNOWN);
        }
    }

    private static void objectOfNoSort() {
        MemberScores m = new MemberScores();
        for (int sort : new int[] {-1, 3, 4, MIN, MAX}) {
            Check.due("object(" + sort + ")", m.object(sort), OUTSIDE);
        }
        Check.due("none was made", m.about(0), 0);
    }

    private static void objectOfNoSortWhenFull() {
        MemberScores m = Make.alike(16, NODE);
        Check.due("OUTSIDE before ROOM, above", m.object(3), OUTSIDE);
        Check.due("OUTSIDE before ROOM, below", m.object(-1), OUTSIDE);
        Check.due("ROOM", m.object(2), ROOM);
    }

    // Terms: All ints are 0 at first, NEXT and ROW none.

    private static void objectAllIntsAre0AtFirst() {
        MemberScores m = told(THING, NODE, LIST);
        for (int object = 0; object <= 2; object++) {
            Check.due("A of " + object, a(m, object), 0);
            Check.due("B of " + object, b(m, object), 0);
            Check.due("A to 0 of " + object, m.set(object, 0, 0), 0);
            Check.due("B to 0 of " + object, m.set(object, 1, 0), 0);
        }
    }

    private static void objectNextAndRowAreNoneAtFirst() {
        MemberScores m = told(THING, NODE, LIST);
        for (int object = 1; object <= 2; object++) {
            Check.due("NEXT of " + object, hasNext(m, object) ? 1 : 0, 0);
            Check.due("NEXT to NONE of " + object, m.link(object, NONE), 0);
        }
        Check.dueThrow("no ROW", NullPointerException.class, () -> length(m, 2));
        Check.due("no ROW, no place 0", m.item(2, 0, 0), OUTSIDE);
        Check.due("it had no ROW", m.row(2, 0), NONE);
    }

    // Promise 3: A (field 0) or B (1) of an OBJECT becomes v: 1 if that is another one (it is changed then), else 0.

    private static void setNoObject() {
        MemberScores m = Make.objects(THING, LIST);
        for (int object : new int[] {-1, 2, 15, 16, MIN, MAX}) {
            Check.due("set(" + object + ", 0, 1)", m.set(object, 0, 1), UNKNOWN);
        }
    }

    private static void setNoField() {
        MemberScores m = Make.objects(THING, NODE, LIST);
        for (int object = 0; object <= 2; object++) {
            for (int field : new int[] {-1, 2, 3, 4, MIN, MAX}) {
                Check.due("set(" + object + ", " + field + ", 0)", m.set(object, field, 0), OUTSIDE);
            }
        }
    }

    private static void setUnknownBeforeOutside() {
        MemberScores m = Make.objects(THING);
        Check.due("set(1, 2, 0)", m.set(1, 2, 0), UNKNOWN);
        Check.due("set(-1, -1, 0)", m.set(-1, -1, 0), UNKNOWN);
    }

    private static void setTheSameOrAnother() {
        MemberScores m = told(THING, NODE, LIST);
        int[] values = {1, -1, MIN, MAX, 0};
        for (int object = 0; object <= 2; object++) {
            for (int v : values) {
                Check.due("A of " + object + " to " + v, m.set(object, 0, v), 1);
                Check.due("A of " + object + " again to " + v, m.set(object, 0, v), 0);
                Check.due("A of " + object, a(m, object), v);
                Check.due("B of " + object + " is apart", m.set(object, 1, v), 1);
                Check.due("B of " + object + " again to " + v, m.set(object, 1, v), 0);
                Check.due("B of " + object, b(m, object), v);
            }
        }
    }

    private static void setWhatIsRefusedStays() {
        MemberScores m = told(LIST);
        m.set(0, 0, 5);
        m.set(0, 1, 6);
        settled(m);
        m.set(0, 2, 7);
        m.set(0, -1, 7);
        m.set(1, 0, 7);
        Check.due("nothing is FRESH by what is refused", m.about(4), 0);
        Check.due("A stays", a(m, 0), 5);
        Check.due("B stays", b(m, 0), 6);
    }

    private static void setIsChangedOnlyIfAnother() {
        MemberScores m = told(THING, THING);
        m.set(0, 0, 5);
        settled(m);
        m.set(0, 0, 5);
        Check.due("the same A", m.about(4), 0);
        m.set(0, 1, 0);
        Check.due("the same B", m.about(4), 0);
        m.set(0, 0, 6);
        Check.due("another A: RULE 0 of OBJECT 0", m.about(4), 1);
        m.set(0, 0, 5);
        Check.due("the old A: it was changed", m.about(4), 1);
        m.set(1, 1, 6);
        Check.due("another B: RULE 1 of OBJECT 1", m.about(4), 2);
    }

    // Promise 4: NEXT becomes an OBJECT, or NONE: 1 if that is another one (it is changed then), else 0.

    private static void linkNoObject() {
        MemberScores m = Make.objects(NODE, LIST);
        for (int object : new int[] {-1, 2, 16, MIN, MAX}) {
            Check.due("link(" + object + ", 0)", m.link(object, 0), UNKNOWN);
            Check.due("link(" + object + ", NONE)", m.link(object, NONE), UNKNOWN);
        }
    }

    private static void linkToNoObject() {
        MemberScores m = Make.objects(NODE, LIST);
        for (int next : new int[] {-2, 2, 16, MIN, MAX}) {
            Check.due("link(0, " + next + ")", m.link(0, next), UNKNOWN);
            Check.due("link(1, " + next + ")", m.link(1, next), UNKNOWN);
        }
    }

    private static void linkOfWhatHasNoNext() {
        MemberScores m = Make.objects(THING, NODE);
        Check.due("link of a THING", m.link(0, 1), OUTSIDE);
        Check.due("link of a THING to itself", m.link(0, 0), OUTSIDE);
        Check.due("link of a THING to NONE", m.link(0, NONE), OUTSIDE);
    }

    private static void linkUnknownBeforeOutside() {
        MemberScores m = Make.objects(THING);
        Check.due("link of a THING to what is not there", m.link(0, 1), UNKNOWN);
        Check.due("link of a THING to -2", m.link(0, -2), UNKNOWN);
    }

    private static void linkTheSameOrAnother() {
        MemberScores m = told(NODE, LIST, THING);
        for (int object = 0; object <= 1; object++) {
            Check.due("none to none", m.link(object, NONE), 0);
            Check.due("to a THING", m.link(object, 2), 1);
            Check.due("to it again", m.link(object, 2), 0);
            Check.due("to the first", m.link(object, 0), 1);
            Check.due("to the first again", m.link(object, 0), 0);
            Check.due("to another", m.link(object, 1), 1);
            Check.due("it has a NEXT", hasNext(m, object) ? 1 : 0, 1);
            Check.due("to none", m.link(object, NONE), 1);
            Check.due("to none again", m.link(object, NONE), 0);
            Check.due("it has no NEXT", hasNext(m, object) ? 1 : 0, 0);
        }
    }

    private static void linkIsChangedOnlyIfAnother() {
        MemberScores m = settled(told(NODE, NODE));
        m.link(0, NONE);
        Check.due("none to none", m.about(4), 0);
        m.link(0, 2);
        m.link(0, -2);
        Check.due("refused", m.about(4), 0);
        m.link(0, 0);
        Check.due("to itself: RULE 3 of OBJECT 0", m.about(4), 1);
        settled(m);
        m.link(0, 0);
        Check.due("to itself again", m.about(4), 0);
        m.link(0, NONE);
        m.link(0, 0);
        Check.due("to NONE and back: it was changed", m.about(4), 1);
    }

    // Promise 5: ROW becomes n zeros (0 .. 8), or NONE (it is changed in any case): how many ints it had; NONE.

    private static void rowNoObject() {
        MemberScores m = Make.objects(LIST);
        for (int object : new int[] {-1, 1, 16, MIN, MAX}) {
            Check.due("row(" + object + ", 0)", m.row(object, 0), UNKNOWN);
        }
    }

    private static void rowOfWhatIsNoList() {
        MemberScores m = Make.objects(THING, NODE);
        for (int object = 0; object <= 1; object++) {
            for (int n : new int[] {NONE, 0, 1, 8}) {
                Check.due("row(" + object + ", " + n + ")", m.row(object, n), OUTSIDE);
            }
        }
    }

    private static void rowTooShortOrTooLong() {
        MemberScores m = Make.objects(LIST);
        for (int n : new int[] {-2, 9, 10, MIN, MAX}) {
            Check.due("row(0, " + n + ")", m.row(0, n), OUTSIDE);
        }
        Check.due("there is no ROW yet", m.row(0, NONE), NONE);
    }

    private static void rowUnknownBeforeOutside() {
        MemberScores m = Make.objects(NODE);
        Check.due("row(1, 9)", m.row(1, 9), UNKNOWN);
        Check.due("row(-1, -2)", m.row(-1, -2), UNKNOWN);
    }

    private static void rowHowManyItHad() {
        MemberScores m = Make.objects(LIST);
        Check.due("none, to none", m.row(0, NONE), NONE);
        Check.due("none, to an empty one", m.row(0, 0), NONE);
        Check.due("empty, to an empty one", m.row(0, 0), 0);
        Check.due("empty, to none", m.row(0, NONE), 0);
        int had = NONE;
        for (int n = 0; n <= 8; n++) {
            Check.due(had + ", to " + n, m.row(0, n), had);
            had = n;
        }
        Check.due("8, to 8", m.row(0, 8), 8);
        Check.due("8, to none", m.row(0, NONE), 8);
    }

    private static void rowBecomesZeros() {
        MemberScores m = told(LIST);
        for (int n : new int[] {8, 8, 1, 8, 0, 8, NONE, 8}) {
            m.row(0, n);
            for (int i = 0; i < n; i++) {
                m.set(0, 0, i);
                Check.due("place " + i + " of " + n, m.mark(4, 0, NONE), 0);
                Check.due("place " + i + " becomes another", m.item(0, i, -1), 1);
            }
        }
    }

    private static void rowIsChangedInAnyCase() {
        for (int n : new int[] {NONE, 0, 8}) {
            MemberScores m = told(LIST, LIST);
            m.row(0, n);
            settled(m);
            m.row(0, n);
            Check.due(n + " to " + n + ": RULES 2 and 4 of OBJECT 0", m.about(4), 2);
        }
    }

    private static void rowWhatIsRefusedStays() {
        MemberScores m = told(LIST);
        m.row(0, 2);
        m.item(0, 0, 7);
        settled(m);
        m.row(0, 9);
        m.row(0, -2);
        Check.due("nothing is FRESH by what is refused", m.about(4), 0);
        Check.due("its length stays", length(m, 0), 2);
        Check.due("its int stays", m.item(0, 0, 7), 0);
    }

    // Promise 6: The int at place i of a ROW becomes v: 1 if that is another one (ROW is changed then), else 0.

    private static void itemNoObject() {
        MemberScores m = Make.objects(LIST);
        m.row(0, 8);
        for (int object : new int[] {-1, 1, 16, MIN, MAX}) {
            Check.due("item(" + object + ", 0, 1)", m.item(object, 0, 1), UNKNOWN);
            Check.due("item(" + object + ", 8, 1)", m.item(object, 8, 1), UNKNOWN);
        }
    }

    private static void itemOfWhatIsNoList() {
        MemberScores m = Make.objects(THING, NODE);
        Check.due("item of a THING", m.item(0, 0, 0), OUTSIDE);
        Check.due("item of a NODE", m.item(1, 0, 0), OUTSIDE);
    }

    private static void itemOfNoRow() {
        MemberScores m = Make.objects(LIST);
        Check.due("never a ROW", m.item(0, 0, 0), OUTSIDE);
        Check.due("never a ROW, place -1", m.item(0, -1, 0), OUTSIDE);
        m.row(0, 8);
        m.row(0, NONE);
        Check.due("a ROW no more", m.item(0, 0, 0), OUTSIDE);
    }

    private static void itemOfAnEmptyRow() {
        MemberScores m = Make.objects(LIST);
        m.row(0, 0);
        Check.due("place 0 of an empty ROW", m.item(0, 0, 0), OUTSIDE);
        Check.due("place -1 of an empty ROW", m.item(0, -1, 0), OUTSIDE);
    }

    private static void itemNoSuchPlace() {
        MemberScores m = Make.objects(LIST);
        for (int n = 1; n <= 8; n++) {
            m.row(0, n);
            Check.due("the first place of " + n, m.item(0, 0, 1), 1);
            Check.due("the last place of " + n, m.item(0, n - 1, 2), 1);
            for (int i : new int[] {-1, n, n + 1, 9, MIN, MAX}) {
                Check.due("place " + i + " of " + n, m.item(0, i, 1), OUTSIDE);
            }
        }
    }

    private static void itemTheSameOrAnother() {
        MemberScores m = told(LIST);
        m.row(0, 8);
        for (int i : new int[] {0, 7}) {
            m.set(0, 0, i);
            Check.due("0 to 0", m.item(0, i, 0), 0);
            for (int v : new int[] {1, -1, MIN, MAX, 0}) {
                Check.due("place " + i + " to " + v, m.item(0, i, v), 1);
                Check.due("place " + i + " again to " + v, m.item(0, i, v), 0);
                Check.due("place " + i, m.mark(4, 0, NONE), v);
            }
        }
    }

    private static void itemIsChangedOnlyIfAnother() {
        MemberScores m = told(LIST, LIST);
        m.row(0, 2);
        m.row(1, 2);
        settled(m);
        m.item(0, 1, 0);
        m.item(0, 2, 5);
        m.item(0, -1, 5);
        Check.due("the same int, or refused", m.about(4), 0);
        m.item(0, 1, 5);
        Check.due("another int: RULES 2 and 4 of OBJECT 0", m.about(4), 2);
        settled(m);
        m.item(0, 1, 6);
        m.item(0, 1, 5);
        Check.due("there and back: it was changed", m.about(4), 2);
    }
}
