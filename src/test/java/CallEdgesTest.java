import java.util.NoSuchElementException;

/** Promises 13 to 16 at their edges; the words of the document stand above the tests of them. */
public final class CallEdgesTest {
    private static final int NONE = MemberScores.NONE, UNKNOWN = MemberScores.UNKNOWN;
    private static final int OUTSIDE = MemberScores.OUTSIDE;
    private static final int MIN = Make.MIN, MAX = Make.MAX;
    private static final int THING = 0, NODE = 1, LIST = 2;

    public static void main(String[] args) {
        markOfNoRule();
        markOfNoObject();
        markOfAnotherSort();
        markYWhereItHasNone();
        markYWhereItHasOne();
        markOfThePairsEnds();
        markOfNoCallWorksNothing();
        markWorksThatCallAlone();
        markIsKept();
        markOfARuleThatIsOff();
        markOfEachFault();
        markOfAFaultIsKept();
        markOfAnyInt();
        readsOfNoCall();
        readsOfNoObject();
        readsWhenNeverWorked();
        readsWhenWorkedLast();
        readsOfAllFields();
        readsWorksNothing();
        readsOfWhatIsNotKept();
        readsOfAFreshOneThatIsNotKept();
        readsOfAFreshPairThatIsNotKept();
        unlikeUnknown();
        unlikeOfNoCalls();
        unlikeOfAll();
        unlikeMarkAndFault();
        unlikeTwoFaults();
        unlikeOneTimeAfterTheOther();
        unlikeKeepsNothing();
        unlikeWhenOff();
        unevenUnknown();
        unevenOutside();
        unevenOfNoPairs();
        unevenOfAll();
        unevenMarkAndFault();
        unevenTwoFaults();
        unevenThenSo();
        unevenKeepsNothing();
        unevenWhenOff();
        Check.end();
    }

    private static void dueNone(MemberScores m, int rule, int x, int y) {
        String call = "(" + rule + ", " + x + ", " + y + ")";
        Check.dueThrow("mark" + call, NoSuchElementException.class, () -> m.mark(rule, x, y));
        Check.due("reads" + call, m.reads(rule, x, y, 0), UNKNOWN);
    }

    /** A THING, a NODE and a LIST, and RULES 0 .. 4 OVER 0 .. 4 of the number 5. */
    private static MemberScores overAll() {
        MemberScores m = Make.objects(THING, NODE, LIST);
        int five = Make.number(m, 5);
        for (int over = 0; over <= 4; over++) {
            Make.rule(m, over, five);
        }
        return m;
    }

    // Promise 13: NoSuchElementException: there is no such CALL. Promise 14: UNKNOWN (no such CALL, OBJECT).

    private static void markOfNoRule() {
        MemberScores m = overAll();
        for (int rule : new int[] {-1, 5, 8, MIN, MAX}) {
            dueNone(m, rule, 0, NONE);
            dueNone(m, rule, 0, 1);
        }
    }

    private static void markOfNoObject() {
        MemberScores m = overAll();
        for (int rule = 0; rule <= 4; rule++) {
            for (int object : new int[] {-2, -1, 3, 15, 16, MIN, MAX}) {
                dueNone(m, rule, object, NONE);
                dueNone(m, rule, object, 2);
            }
        }
        for (int y : new int[] {-2, -1, 3, 15, 16, 17, MIN, MAX}) {
            dueNone(m, 3, 0, y);
            dueNone(m, 4, 0, y);
        }
    }

    private static void markOfAnotherSort() {
        MemberScores m = overAll();
        for (int over = 0; over <= 2; over++) {
            for (int object = 0; object < over; object++) {
                dueNone(m, over, object, NONE);
            }
            for (int object = over; object <= 2; object++) {
                Check.due("OVER " + over + ", X " + object, m.mark(over, object, NONE), 5);
            }
        }
    }

    private static void markYWhereItHasNone() {
        MemberScores m = overAll();
        for (int over = 0; over <= 2; over++) {
            for (int y : new int[] {0, 1, 2, 3, -2, UNKNOWN, MIN, MAX}) {
                dueNone(m, over, 2, y);
            }
            Check.due("y NONE OVER " + over, m.mark(over, 2, NONE), 5);
        }
    }

    private static void markYWhereItHasOne() {
        MemberScores m = overAll();
        for (int x = 0; x <= 2; x++) {
            dueNone(m, 3, x, NONE);
            dueNone(m, 4, x, NONE);
            dueNone(m, 3, x, x);
            dueNone(m, 4, x, x);
            for (int y = 0; y < x; y++) {
                dueNone(m, 3, x, y);
                Check.due("the greater first OVER 4", m.mark(4, x, y), 5);
                Check.due("the lesser first OVER 4", m.mark(4, y, x), 5);
                Check.due("the lesser first OVER 3", m.mark(3, y, x), 5);
            }
        }
    }

    private static void markOfThePairsEnds() {
        MemberScores m = Make.alike(16, THING);
        int hundred = Make.number(m, 100);
        int a = Make.of(m, 3, Make.x(m));
        int b = Make.of(m, 4, Make.y(m));
        int both = Make.both(m, 8, Make.both(m, 10, a, hundred), b);
        Make.rule(m, 3, both);
        Make.rule(m, 4, both);
        for (int i = 0; i < 16; i++) {
            m.set(i, 0, i);
            m.set(i, 1, i);
        }
        int[][] pairs = {{0, 1}, {0, 15}, {14, 15}, {1, 2}};
        for (int[] p : pairs) {
            Check.due("OVER 3", m.mark(0, p[0], p[1]), p[0] * 100 + p[1]);
            Check.due("OVER 4", m.mark(1, p[0], p[1]), p[0] * 100 + p[1]);
            Check.due("OVER 4 turned", m.mark(1, p[1], p[0]), p[1] * 100 + p[0]);
        }
        dueNone(m, 1, 15, 15);
        dueNone(m, 1, 15, 16);
        dueNone(m, 1, 14, 31);
    }

    private static void markOfNoCallWorksNothing() {
        MemberScores m = overAll();
        dueNone(m, 0, 3, NONE);
        dueNone(m, 3, 1, 0);
        Check.due("none was worked", m.about(5), 0);
        Check.due("all are FRESH", m.about(4), m.about(3));
    }

    // Promise 13: MARK of a CALL; if it is FRESH it is worked first (the RULE may be off).

    private static void markWorksThatCallAlone() {
        MemberScores m = Make.alike(3, THING);
        Make.rule(m, 0, Make.count(m));
        Make.rule(m, 0, Make.of(m, 3, Make.y(m)));
        Check.due("X 1", m.mark(0, 1, NONE), 0);
        Check.due("one was kept", m.about(5), 1);
        Check.due("the others are FRESH", m.about(4), 5);
        Check.due("X 0 after it", m.mark(0, 0, NONE), 1);
        Check.due("no FAULT of the other RULE", m.about(8), 0);
    }

    private static void markIsKept() {
        MemberScores m = Make.objects(THING);
        int x = Make.x(m);
        Make.rule(m, 0, Make.both(m, 8, Make.count(m), Make.both(m, 10, Make.of(m, 3, x), Make.number(m, 0))));
        Check.due("FRESH", m.mark(0, 0, NONE), 0);
        Check.due("not FRESH", m.mark(0, 0, NONE), 0);
        m.set(0, 1, 1);
        Check.due("B was not READ", m.mark(0, 0, NONE), 0);
        m.set(0, 0, 1);
        Check.due("FRESH by A", m.mark(0, 0, NONE), 1);
        Check.due("two were kept", m.about(5), 2);
        Check.due("SCORE of it", m.score(0), 1);
    }

    private static void markOfARuleThatIsOff() {
        MemberScores m = Make.objects(THING);
        Make.rule(m, 0, Make.count(m));
        m.turn(0, false);
        m.score(0);
        Check.due("not SETTLED when off", m.about(6), 0);
        Check.due("off", m.mark(0, 0, NONE), 0);
        Check.due("off, kept", m.mark(0, 0, NONE), 0);
        Check.due("worked once", m.about(6), 1);
        m.turn(0, true);
        Check.due("kept when it is ON", m.about(4), 0);
        m.turn(0, false);
        Make.rule(m, 0, Make.of(m, 3, Make.y(m)));
        m.turn(1, false);
        Check.dueThrow("a FAULT when off", NullPointerException.class, () -> m.mark(1, 0, NONE));
        Check.due("no SCORE sees it", m.score(0), 0);
        m.turn(1, true);
        Check.due("it is kept", m.failed(0), 1);
        Check.due("one FAULT", m.about(8), 1);
    }

    // Promise 13: .. it has the FAULT EMPTY, CAST, INDEX, ZERO, WORN.

    private static void markOfEachFault() {
        MemberScores m = Make.objects(NODE);
        int x = Make.x(m);
        int next = Make.of(m, 5, x);
        Make.rule(m, 0, Make.both(m, 12, Make.number(m, 1), Make.both(m, 6, next, Make.number(m, 1))));
        m.object(LIST);
        Check.dueThrow("EMPTY", NullPointerException.class, () -> m.mark(0, 0, NONE));
        m.link(0, 0);
        Check.dueThrow("CAST", ClassCastException.class, () -> m.mark(0, 0, NONE));
        m.link(0, 1);
        Check.dueThrow("EMPTY, no ROW", NullPointerException.class, () -> m.mark(0, 0, NONE));
        m.row(1, 1);
        Check.dueThrow("INDEX", ArrayIndexOutOfBoundsException.class, () -> m.mark(0, 0, NONE));
        m.row(1, 2);
        Check.dueThrow("ZERO", ArithmeticException.class, () -> m.mark(0, 0, NONE));
        m.item(1, 1, 2);
        Check.due("none", m.mark(0, 0, NONE), 1);
        Make.rule(m, 0, Make.both(m, 14, next, x));
        m.object(THING);
        Check.dueThrow("CAST of NEXT", ClassCastException.class, () -> m.mark(1, 2, NONE));
    }

    private static void markOfAFaultIsKept() {
        MemberScores m = Make.objects(THING);
        Make.rule(m, 0, Make.both(m, 11, Make.count(m), Make.number(m, 0)));
        for (int i = 0; i < 3; i++) {
            Check.dueThrow("ZERO", ArithmeticException.class, () -> m.mark(0, 0, NONE));
        }
        Check.due("worked once", m.about(6), 1);
        Check.due("kept once", m.about(5), 1);
        Check.due("one FAULT", m.about(8), 1);
    }

    private static void markOfAnyInt() {
        MemberScores m = Make.objects(THING);
        m.rule(0, 2, -1000, Make.of(m, 3, Make.x(m)));
        for (int v : new int[] {MIN, MAX, NONE, UNKNOWN, OUTSIDE, 0}) {
            m.set(0, 0, v);
            Check.due("a MARK whatever it is, without WEIGHT", m.mark(0, 0, NONE), v);
        }
    }

    // Promise 14: Which FIELDS of an OBJECT a CALL READ, when it was worked last, as bits (0 if it never was, ..).

    private static void readsOfNoCall() {
        MemberScores m = overAll();
        m.score(0);
        Check.due("no RULE", m.reads(5, 0, NONE, 0), UNKNOWN);
        Check.due("no RULE below", m.reads(-1, 0, NONE, 0), UNKNOWN);
        Check.due("no X", m.reads(0, 3, NONE, 0), UNKNOWN);
        Check.due("a Y too many", m.reads(0, 0, 1, 0), UNKNOWN);
        Check.due("a Y too few", m.reads(3, 0, NONE, 0), UNKNOWN);
        Check.due("no SORT of it", m.reads(2, 1, NONE, 1), UNKNOWN);
    }

    private static void readsOfNoObject() {
        MemberScores m = overAll();
        for (int object : new int[] {-1, -2, 3, 15, 16, 64, MIN, MAX}) {
            Check.due("OBJECT " + object, m.reads(0, 0, NONE, object), UNKNOWN);
            Check.due("OBJECT " + object + " of a pair", m.reads(4, 2, 0, object), UNKNOWN);
        }
        Check.due("the last OBJECT", m.reads(0, 0, NONE, 2), 0);
    }

    private static void readsWhenNeverWorked() {
        MemberScores m = Make.objects(LIST, LIST);
        Make.rule(m, 4, Make.of(m, 3, Make.x(m)));
        Check.due("never worked", m.reads(0, 0, 1, 0), 0);
        m.mark(0, 0, 1);
        Check.due("worked", m.reads(0, 0, 1, 0), 1);
        Check.due("of the other OBJECT", m.reads(0, 0, 1, 1), 0);
        Check.due("the other CALL", m.reads(0, 1, 0, 1), 0);
        m.object(LIST);
        m.score(0);
        Check.due("of an OBJECT made after it was worked", m.reads(0, 0, 1, 2), 0);
        Check.due("of the new OBJECT's CALL", m.reads(0, 2, 0, 2), 1);
    }

    private static void readsWhenWorkedLast() {
        MemberScores m = Make.objects(THING);
        int x = Make.x(m);
        int b = Make.of(m, 4, x);
        Make.rule(m, 0, m.expression(15, Make.of(m, 3, x), b, Make.number(m, 0)));
        m.score(0);
        Check.due("A alone", m.reads(0, 0, NONE, 0), 1);
        m.set(0, 0, 1);
        Check.due("FRESH, but not worked", m.reads(0, 0, NONE, 0), 1);
        m.score(0);
        Check.due("A and B", m.reads(0, 0, NONE, 0), 3);
        m.set(0, 0, 0);
        Check.due("FRESH, but not worked again", m.reads(0, 0, NONE, 0), 3);
        m.turn(0, false);
        m.score(0);
        Check.due("off", m.reads(0, 0, NONE, 0), 3);
        m.mark(0, 0, NONE);
        Check.due("A alone again", m.reads(0, 0, NONE, 0), 1);
    }

    private static void readsOfAllFields() {
        MemberScores m = Make.alike(16, LIST);
        int x = Make.x(m);
        int next = Make.of(m, 5, x);
        int sum = Make.both(m, 8, Make.of(m, 3, next), Make.of(m, 4, next));
        int all = Make.both(m, 8, sum, Make.of(m, 7, next));
        Make.rule(m, 0, Make.both(m, 8, all, Make.both(m, 14, Make.of(m, 5, next), x)));
        for (int object = 0; object < 16; object++) {
            m.link(object, 15 - object);
            m.row(object, 1);
        }
        m.score(0);
        for (int x0 = 0; x0 < 16; x0++) {
            for (int object = 0; object < 16; object++) {
                int want = object == 15 - x0 ? 15 : object == x0 ? 4 : 0;
                Check.due("CALL " + x0 + " of " + object, m.reads(0, x0, NONE, object), want);
            }
        }
    }

    private static void readsWorksNothing() {
        MemberScores m = Make.objects(THING);
        Make.rule(m, 0, Make.both(m, 8, Make.count(m), Make.of(m, 3, Make.x(m))));
        m.reads(0, 0, NONE, 0);
        Check.due("FRESH still", m.about(4), 1);
        Check.due("COUNT stays", m.about(6), 0);
    }

    private static void readsOfWhatIsNotKept() {
        MemberScores m = Make.alike(2, THING);
        int x = Make.x(m);
        int diff = Make.both(m, 9, Make.of(m, 3, x), Make.of(m, 4, Make.y(m)));
        Make.rule(m, 3, diff);
        m.full(0);
        m.unlike(0);
        m.uneven(0);
        Check.due("never worked and kept", m.reads(0, 0, 1, 0), 0);
        m.score(0);
        m.uneven(0);
        Check.due("X as it was kept", m.reads(0, 0, 1, 0), 1);
        Check.due("Y as it was kept", m.reads(0, 0, 1, 1), 2);
    }

    // Terms, 3: A CALL is FRESH (never worked, or a FIELD that it READ was changed since then). Promises 12, 15, 16:
    // nothing of it is kept.

    /** A of X, and B of X, too, if A is not 0. */
    private static int bOrNot(MemberScores m) {
        int x = Make.x(m);
        return m.expression(15, Make.of(m, 3, x), Make.of(m, 4, x), Make.number(m, 0));
    }

    private static void readsOfAFreshOneThatIsNotKept() {
        MemberScores m = Make.objects(THING);
        Make.rule(m, 0, bOrNot(m));
        m.score(0);
        m.set(0, 0, 1);
        m.full(0);
        Check.due("full READ B, too", m.reads(0, 0, NONE, 0), 1);
        m.unlike(0);
        Check.due("unlike READ B, too", m.reads(0, 0, NONE, 0), 1);
        Check.due("FRESH still", m.about(4), 1);
        m.failed(0);
        Check.due("what is kept READ B, too", m.reads(0, 0, NONE, 0), 3);
        m.set(0, 0, 0);
        m.full(0);
        m.unlike(0);
        Check.due("they READ A alone", m.reads(0, 0, NONE, 0), 3);
        m.set(0, 1, 1);
        Check.due("FRESH by A and B", m.about(4), 1);
    }

    private static void readsOfAFreshPairThatIsNotKept() {
        MemberScores m = Make.objects(THING, THING);
        Make.rule(m, 3, bOrNot(m));
        m.score(0);
        m.set(0, 0, 1);
        m.uneven(0);
        Check.due("X, with B", m.reads(0, 0, 1, 0), 1);
        Check.due("Y, as X", m.reads(0, 0, 1, 1), 0);
        m.set(1, 0, 1);
        Check.due("Y is not READ", m.about(4), 1);
        m.mark(0, 0, 1);
        m.uneven(0);
        Check.due("X as it was kept", m.reads(0, 0, 1, 0), 3);
        m.set(1, 0, 2);
        m.set(1, 1, 2);
        Check.due("Y is not READ by what is kept", m.about(4), 0);
    }

    // Promise 15: How many CALLS of a RULE tell unlike (a MARK, a FAULT), each being worked twice, one time after the
    // other; nothing of it is kept. UNKNOWN.

    private static void unlikeUnknown() {
        MemberScores m = overAll();
        for (int rule : new int[] {-1, 5, 8, MIN, MAX}) {
            Check.due("unlike(" + rule + ")", m.unlike(rule), UNKNOWN);
        }
        Check.due("nothing was worked", m.about(5), 0);
    }

    private static void unlikeOfNoCalls() {
        MemberScores m = Make.objects(THING);
        int c = Make.count(m);
        Make.rule(m, 1, c);
        Make.rule(m, 4, c);
        Make.rule(m, 3, c);
        for (int rule = 0; rule <= 2; rule++) {
            Check.due("no CALLS, RULE " + rule, m.unlike(rule), 0);
        }
        Check.due("no COUNT", m.about(6), 0);
    }

    private static void unlikeOfAll() {
        MemberScores m = Make.alike(16, LIST);
        int c = Make.count(m);
        int[] most = {16, 16, 16, 120, 240};
        int counted = 0;
        for (int over = 0; over <= 4; over++) {
            Make.rule(m, over, c);
            Check.due("all OVER " + over, m.unlike(over), most[over]);
            counted += 2 * most[over];
            Check.due("each twice", m.about(6), counted);
        }
    }

    /** COUNT modulo 2. */
    private static int odd(MemberScores m) {
        return Make.both(m, 12, Make.count(m), Make.number(m, 2));
    }

    private static void unlikeMarkAndFault() {
        MemberScores m = Make.objects(THING);
        int odd = odd(m);
        int zero = Make.number(m, 0);
        int one = Make.number(m, 1);
        Make.rule(m, 0, Make.both(m, 11, zero, odd));
        Check.due("ZERO, then 0", m.unlike(0), 1);
        Check.due("one FAULT", m.about(8), 1);
        Make.rule(m, 0, Make.both(m, 11, zero, Make.both(m, 9, one, odd)));
        Check.due("0, then ZERO", m.unlike(1), 1);
        Check.due("two FAULTS", m.about(8), 2);
        Make.rule(m, 0, Make.of(m, 3, Make.y(m)));
        Check.due("EMPTY, which is 0, both times", m.unlike(2), 0);
        Check.due("four FAULTS", m.about(8), 4);
    }

    private static void unlikeTwoFaults() {
        MemberScores m = Make.objects(THING);
        int zero = Make.number(m, 0);
        int divides = Make.both(m, 11, zero, zero);
        Make.rule(m, 0, m.expression(15, odd(m), divides, Make.of(m, 3, Make.y(m))));
        Make.rule(m, 0, m.expression(15, odd(m), divides, Make.both(m, 12, zero, zero)));
        Check.due("EMPTY, then ZERO", m.unlike(0), 1);
        Check.due("ZERO, then ZERO of another EXPRESSION", m.unlike(1), 0);
        Check.due("four FAULTS", m.about(8), 4);
    }

    private static void unlikeOneTimeAfterTheOther() {
        MemberScores m = Make.alike(2, THING);
        int half = Make.both(m, 11, Make.count(m), Make.number(m, 2));
        Make.rule(m, 0, half);
        Check.due("0, 1 and 2, 3 halved, not 0, 2 and 1, 3", m.unlike(0), 0);
    }

    private static void unlikeKeepsNothing() {
        MemberScores m = Make.alike(2, THING);
        int x = Make.x(m);
        Make.rule(m, 0, Make.both(m, 8, Make.count(m), Make.of(m, 3, x)));
        m.unlike(0);
        Check.due("FRESH still", m.about(4), 2);
        Check.due("none was kept", m.about(5), 0);
        Check.due("SCORE by the next COUNTS", m.score(0), 4 + 5);
        m.unlike(0);
        Check.due("SCORE as it was kept", m.score(0), 4 + 5);
        Check.due("two were kept", m.about(5), 2);
        m.set(0, 0, 1);
        m.unlike(0);
        Check.due("FRESH by the change still", m.about(4), 1);
    }

    private static void unlikeWhenOff() {
        MemberScores m = Make.alike(2, THING);
        Make.rule(m, 0, Make.count(m));
        Make.rule(m, 0, Make.of(m, 3, Make.y(m)));
        m.turn(0, false);
        Check.due("off", m.unlike(0), 2);
        Check.due("no other RULE is worked", m.about(8), 0);
        Check.due("off, in order", m.mark(0, 0, NONE), 4);
    }

    // Promise 16: How many pairs of a RULE OVER 3 tell unlike when X and Y are exchanged (each is worked, then so);
    // nothing of it is kept. UNKNOWN, OUTSIDE (it is not OVER 3).

    private static void unevenUnknown() {
        MemberScores m = overAll();
        for (int rule : new int[] {-1, 5, 8, MIN, MAX}) {
            Check.due("uneven(" + rule + ")", m.uneven(rule), UNKNOWN);
        }
    }

    private static void unevenOutside() {
        MemberScores m = Make.objects(LIST, LIST);
        int c = Make.count(m);
        for (int over = 0; over <= 4; over++) {
            Make.rule(m, over, c);
            if (over != 3) {
                Check.due("OVER " + over, m.uneven(over), OUTSIDE);
            }
        }
        Check.due("nothing was worked", m.about(6), 0);
        Check.due("OVER 3", m.uneven(3), 1);
    }

    private static void unevenOfNoPairs() {
        MemberScores m = new MemberScores();
        Make.rule(m, 3, Make.count(m));
        Check.due("no OBJECTS", m.uneven(0), 0);
        m.object(THING);
        Check.due("one OBJECT", m.uneven(0), 0);
        Check.due("no COUNT", m.about(6), 0);
        m.object(THING);
        Check.due("one pair", m.uneven(0), 1);
        Check.due("two COUNTS", m.about(6), 2);
    }

    private static void unevenOfAll() {
        MemberScores m = Make.alike(16, THING);
        Make.rule(m, 3, Make.of(m, 3, Make.x(m)));
        Check.due("all alike", m.uneven(0), 0);
        for (int i = 0; i < 16; i++) {
            m.set(i, 0, i);
        }
        Check.due("all pairs", m.uneven(0), 120);
        m.set(15, 0, 0);
        Check.due("all but one", m.uneven(0), 119);
    }

    private static void unevenMarkAndFault() {
        MemberScores m = Make.alike(2, THING);
        int zero = Make.number(m, 0);
        int a = Make.of(m, 3, Make.x(m));
        Make.rule(m, 3, Make.both(m, 11, zero, a));
        m.set(0, 0, 1);
        Check.due("0, then ZERO", m.uneven(0), 1);
        m.set(0, 0, 0);
        m.set(1, 0, 1);
        Check.due("ZERO, then 0", m.uneven(0), 1);
        Check.due("two FAULTS", m.about(8), 2);
        m.set(1, 0, 0);
        Check.due("ZERO both", m.uneven(0), 0);
        Check.due("four FAULTS", m.about(8), 4);
    }

    private static void unevenTwoFaults() {
        MemberScores m = Make.objects(NODE, THING);
        int x = Make.x(m);
        Make.rule(m, 3, Make.of(m, 3, Make.of(m, 5, x)));
        Check.due("EMPTY, then CAST", m.uneven(0), 1);
        Check.due("two FAULTS", m.about(8), 2);
    }

    private static void unevenThenSo() {
        MemberScores m = Make.alike(3, THING);
        int half = Make.both(m, 11, Make.count(m), Make.number(m, 2));
        Make.rule(m, 3, half);
        Check.due("each pair, then so, halved", m.uneven(0), 0);
        Check.due("six COUNTS", m.about(6), 6);
        int c = Make.count(m);
        int lesser = Make.both(m, 13, Make.of(m, 3, Make.x(m)), Make.of(m, 3, Make.y(m)));
        int two = Make.number(m, 2);
        Make.rule(m, 3, Make.both(m, 9, Make.both(m, 12, c, two), lesser));
        m.set(1, 0, 1);
        m.set(2, 0, 2);
        Check.due("X the lesser first: 0 - 1, then 1 - 0", m.uneven(1), 3);
    }

    private static void unevenKeepsNothing() {
        MemberScores m = Make.alike(2, THING);
        int x = Make.x(m);
        Make.rule(m, 3, Make.both(m, 8, Make.count(m), Make.of(m, 3, x)));
        m.uneven(0);
        Check.due("FRESH still", m.about(4), 1);
        Check.due("none was kept", m.about(5), 0);
        Check.due("never worked", m.reads(0, 0, 1, 0), 0);
        Check.due("SCORE by the next COUNT", m.score(0), 2);
        m.uneven(0);
        Check.due("SCORE as it was kept", m.score(0), 2);
        Check.due("X was READ", m.reads(0, 0, 1, 0), 1);
        Check.due("Y wasn't", m.reads(0, 0, 1, 1), 0);
    }

    private static void unevenWhenOff() {
        MemberScores m = Make.alike(2, THING);
        Make.rule(m, 3, Make.of(m, 3, Make.x(m)));
        m.turn(0, false);
        m.set(1, 0, 1);
        Check.due("off", m.uneven(0), 1);
    }
}
