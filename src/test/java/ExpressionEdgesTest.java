/** Promise 7 and the terms of EXPRESSIONS at their edges; the words of the document stand above the tests of them. */
public final class ExpressionEdgesTest {
    private static final int NONE = MemberScores.NONE, UNKNOWN = MemberScores.UNKNOWN;
    private static final int OUTSIDE = MemberScores.OUTSIDE, ROOM = MemberScores.ROOM;
    private static final int MIN = Make.MIN, MAX = Make.MAX;
    private static final int THING = 0, NODE = 1, LIST = 2;
    private static final int EMPTY = 0, CAST = 1, INDEX = 2, ZERO = 3;

    /** By kind, what a, b, c have to be: O an OBJECT, I an int, S a SORT, - nothing. */
    private static final String[] PARTS = {"---", "---", "---", "O--", "O--", "O--", "OI-", "O--", "II-", "II-", "II-",
        "II-", "II-", "II-", "OO-", "III", "OS-", "---"};

    public static void main(String[] args) {
        noSuchKind();
        unknownParts();
        partsOfTheOtherType();
        sortOf16();
        unknownBeforeOutside();
        whatAKindDoesNotHave();
        theEightiethIsTheLast();
        refusalsWhenFull();
        sizeSixtyIsTheLargest();
        sizeCountsOnlyParts();
        numbersOfAnyInt();
        yIsNoneWhenThereIsOneAlone();
        sumsWrap();
        differencesWrap();
        productsWrap();
        quotients();
        rests();
        below();
        sameObjectOrNoneBoth();
        choiceWorksOneAlone();
        sortsOfObjects();
        countGoesRoundAtEight();
        countFromLeftToRight();
        afterAFaultNothingMore();
        noObject();
        castOfNext();
        castOfRow();
        noRow();
        noSuchPlace();
        divisionByZero();
        ofSeveralTheFirst();
        readsOfEachField();
        readsOfAFault();
        Check.end();
    }

    /** EXPRESSIONS 0 X, 1 Y (OBJECTS), 2 the number 1, 3 A of X (ints). */
    private static MemberScores parts() {
        MemberScores m = new MemberScores();
        Make.x(m);
        Make.y(m);
        Make.number(m, 1);
        Make.of(m, 3, 0);
        return m;
    }

    private static int[] good(int kind) {
        int[] given = {0, 0, 0};
        for (int i = 0; i < 3; i++) {
            given[i] = PARTS[kind].charAt(i) == 'I' ? 2 : 0;
        }
        return given;
    }

    private static int made(MemberScores m, int kind, int[] given) {
        return m.expression(kind, given[0], given[1], given[2]);
    }

    private static String named(int kind, int[] given) {
        return "expression(" + kind + ", " + given[0] + ", " + given[1] + ", " + given[2] + ")";
    }

    /** What one THING's CALL of an EXPRESSION of two numbers tells. */
    private static int told(int kind, int a, int b) {
        MemberScores m = Make.objects(THING);
        Make.rule(m, 0, Make.both(m, kind, Make.number(m, a), Make.number(m, b)));
        return m.mark(0, 0, NONE);
    }

    /** The FAULT of the first CALL, and that it is thrown by name. */
    private static void dueFault(String call, MemberScores m, int rule, int x, int fault) {
        Class<? extends RuntimeException> thrown = fault == EMPTY ? NullPointerException.class
            : fault == CAST ? ClassCastException.class
            : fault == INDEX ? ArrayIndexOutOfBoundsException.class : ArithmeticException.class;
        int before = m.about(8);
        Check.dueThrow(call, thrown, () -> m.mark(rule, x, NONE));
        Check.due(call + ", one FAULT more", m.about(8), before + 1);
    }

    // Promise 7: UNKNOWN (a, b, c, where they are EXPRESSIONS), OUTSIDE (kind; ..), ROOM (80; SIZE).

    private static void noSuchKind() {
        MemberScores m = parts();
        for (int kind : new int[] {-1, 18, 19, MIN, MAX}) {
            Check.due("kind " + kind, m.expression(kind, 2, 2, 2), OUTSIDE);
            Check.due("kind " + kind + " has no parts", m.expression(kind, 99, -1, MAX), OUTSIDE);
        }
        Check.due("nothing is made", m.about(1), 4);
        Check.due("the first kind", m.expression(0, 0, 0, 0), 4);
        Check.due("the last kind", m.expression(17, 0, 0, 0), 5);
    }

    private static void unknownParts() {
        MemberScores m = parts();
        for (int kind = 0; kind <= 17; kind++) {
            for (int i = 0; i < 3; i++) {
                char part = PARTS[kind].charAt(i);
                for (int unknown : new int[] {-1, 4, 80, MIN, MAX}) {
                    int[] given = good(kind);
                    given[i] = unknown;
                    if (part == 'I' || part == 'O') {
                        Check.due(named(kind, given), made(m, kind, given), UNKNOWN);
                    }
                }
            }
        }
        Check.due("nothing is made", m.about(1), 4);
    }

    private static void partsOfTheOtherType() {
        MemberScores m = parts();
        for (int kind = 0; kind <= 17; kind++) {
            for (int i = 0; i < 3; i++) {
                char part = PARTS[kind].charAt(i);
                int[] given = good(kind);
                if (part == 'I' || part == 'O') {
                    given[i] = part == 'I' ? 1 : 3;
                    Check.due(named(kind, given), made(m, kind, given), OUTSIDE);
                }
            }
        }
        Check.due("nothing is made", m.about(1), 4);
    }

    private static void sortOf16() {
        MemberScores m = parts();
        for (int sort : new int[] {-1, 3, MIN, MAX}) {
            Check.due("16 of SORT " + sort, m.expression(16, 0, sort, 0), OUTSIDE);
        }
        for (int sort = 0; sort <= 2; sort++) {
            Check.due("16 of SORT " + sort, m.expression(16, 0, sort, 0), 4 + sort);
        }
    }

    private static void unknownBeforeOutside() {
        MemberScores m = parts();
        Check.due("a no int, b UNKNOWN", m.expression(8, 0, 4, 0), UNKNOWN);
        Check.due("a UNKNOWN, b no int", m.expression(8, 4, 0, 0), UNKNOWN);
        Check.due("a, b no ints, c UNKNOWN", m.expression(15, 0, 0, 4), UNKNOWN);
        Check.due("a no OBJECT, b UNKNOWN", m.expression(6, 2, 4, 0), UNKNOWN);
        Check.due("a no OBJECT, b UNKNOWN, of 14", m.expression(14, 2, 4, 0), UNKNOWN);
        Check.due("a UNKNOWN, no SORT", m.expression(16, 4, 3, 0), UNKNOWN);
        Check.due("a no OBJECT, no SORT", m.expression(16, 2, 3, 0), OUTSIDE);
    }

    // Promise 7: what a kind does not have is not looked at.

    private static void whatAKindDoesNotHave() {
        for (int other : new int[] {-1, 99, MIN, MAX, 1, 2}) {
            MemberScores m = parts();
            for (int kind = 0; kind <= 17; kind++) {
                int[] given = good(kind);
                for (int i = 0; i < 3; i++) {
                    given[i] = PARTS[kind].charAt(i) == '-' ? other : given[i];
                }
                Check.due(named(kind, given), made(m, kind, given), 4 + kind);
            }
        }
    }

    // Promise 7: ROOM (80; ..). Terms: EXPRESSIONS 0, 1, .. (80 at most).

    private static void theEightiethIsTheLast() {
        MemberScores m = parts();
        for (int i = 4; i < 79; i++) {
            Make.number(m, i);
        }
        Check.due("the 80th", m.expression(9, 77, 78, 0), 79);
        Check.due("the 81st", m.expression(0, 1, 0, 0), ROOM);
        Check.due("the 81st again", m.expression(1, 0, 0, 0), ROOM);
        Check.due("80 stand", m.about(1), 80);
        m.object(THING);
        Check.due("a RULE of the 80th", Make.rule(m, 0, 79), 0);
        Check.due("it tells", m.mark(0, 0, NONE), -1);
        Check.due("a RULE of the 81st", Make.rule(m, 0, 80), UNKNOWN);
    }

    private static void refusalsWhenFull() {
        MemberScores m = parts();
        for (int i = 4; i < 80; i++) {
            Make.number(m, i);
        }
        Check.due("no kind", m.expression(18, 0, 0, 0), OUTSIDE);
        Check.due("an UNKNOWN part", m.expression(8, 2, 80, 0), UNKNOWN);
        Check.due("an OBJECT for an int", m.expression(8, 2, 0, 0), OUTSIDE);
        Check.due("no SORT", m.expression(16, 0, 3, 0), OUTSIDE);
        Check.due("nothing but ROOM", m.expression(8, 2, 2, 0), ROOM);
    }

    // Terms: SIZE: 1, and the SIZES of its parts (60 at most).

    /** A number that is added to itself until it has this SIZE, which is odd, or, with one NEXT less, even. */
    private static int ofSize(MemberScores m, int size) {
        int one = Make.number(m, 1);
        int made = size % 2 == 1 ? one : Make.of(m, 3, Make.x(m));
        for (int has = size % 2 == 1 ? 1 : 2; has < size; has += 2) {
            made = Make.both(m, 8, made, one);
        }
        return made;
    }

    private static void sizeSixtyIsTheLargest() {
        MemberScores m = new MemberScores();
        int size29 = ofSize(m, 29);
        int size30 = ofSize(m, 30);
        int one = Make.number(m, 1);
        int stand = m.about(1);
        Check.due("1 + 30 + 29", Make.both(m, 8, size30, size29), stand);
        Check.due("1 + 29 + 30", Make.both(m, 13, size29, size30), stand + 1);
        Check.due("1 + 30 + 30", Make.both(m, 8, size30, size30), ROOM);
        Check.due("1 + 1 + 29 + 29", m.expression(15, one, size29, size29), stand + 2);
        Check.due("1 + 30 + 1 + 29", m.expression(15, size30, one, size29), ROOM);
        Check.due("1 + 1 + 30 + 29", m.expression(15, one, size30, size29), ROOM);
        Check.due("1 + 29 + 1 + 30", m.expression(15, size29, one, size30), ROOM);
        Check.due("of one of SIZE 60", Make.both(m, 8, stand, one), ROOM);
        Check.due("what is refused takes no number", Make.number(m, 1), stand + 3);
    }

    private static void sizeCountsOnlyParts() {
        MemberScores m = new MemberScores();
        int x = Make.x(m);
        int large = x;
        for (int size = 2; size <= 59; size++) {
            large = Make.of(m, 5, large);
        }
        Check.due("SIZE 59", large, 58);
        Check.due("SIZE 60 by A", m.expression(3, large, large, large), 59);
        Check.due("SIZE 60 by 16", m.expression(16, large, 2, 58), 60);
        Check.due("SIZE 61 by 14", m.expression(14, large, x, 0), ROOM);
        Check.due("SIZE 61 by 6", m.expression(6, large, Make.number(m, 58), 0), ROOM);
    }

    // Terms: an int (which wraps). 0 the number a. 1 X, 2 Y: the OBJECTS of the call (Y none, when there is one alone).

    private static void numbersOfAnyInt() {
        for (int n : new int[] {0, 1, -1, MIN, MAX}) {
            MemberScores m = Make.objects(THING);
            Make.rule(m, 0, Make.number(m, n));
            Check.due("the number " + n, m.mark(0, 0, NONE), n);
        }
    }

    private static void yIsNoneWhenThereIsOneAlone() {
        MemberScores m = Make.objects(LIST, LIST);
        int a = Make.of(m, 3, Make.y(m));
        for (int over = 0; over <= 4; over++) {
            Make.rule(m, over, a);
        }
        for (int over = 0; over <= 2; over++) {
            dueFault("Y OVER " + over, m, over, 0, EMPTY);
        }
        Check.due("Y OVER 3", m.mark(3, 0, 1), 0);
        Check.due("Y OVER 4", m.mark(4, 1, 0), 0);
    }

    private static void sumsWrap() {
        Check.due("MAX + 1", told(8, MAX, 1), MIN);
        Check.due("MAX + 0", told(8, MAX, 0), MAX);
        Check.due("MIN + -1", told(8, MIN, -1), MAX);
        Check.due("MIN + MIN", told(8, MIN, MIN), 0);
        Check.due("MAX + MAX", told(8, MAX, MAX), -2);
    }

    private static void differencesWrap() {
        Check.due("MIN - 1", told(9, MIN, 1), MAX);
        Check.due("MAX - -1", told(9, MAX, -1), MIN);
        Check.due("0 - MIN", told(9, 0, MIN), MIN);
        Check.due("MIN - MIN", told(9, MIN, MIN), 0);
        Check.due("MIN - MAX", told(9, MIN, MAX), 1);
    }

    private static void productsWrap() {
        Check.due("MAX times 2", told(10, MAX, 2), -2);
        Check.due("MIN times -1", told(10, MIN, -1), MIN);
        Check.due("MIN times 2", told(10, MIN, 2), 0);
        Check.due("MAX times MAX", told(10, MAX, MAX), 1);
        Check.due("46341 times 46341", told(10, 46341, 46341), -2147479015);
        Check.due("MIN times 0", told(10, MIN, 0), 0);
    }

    private static void quotients() {
        Check.due("MIN / -1", told(11, MIN, -1), MIN);
        Check.due("MIN / 1", told(11, MIN, 1), MIN);
        Check.due("MAX / -1", told(11, MAX, -1), -MAX);
        Check.due("1 / MIN", told(11, 1, MIN), 0);
        Check.due("-7 / 2", told(11, -7, 2), -3);
        Check.due("7 / -2", told(11, 7, -2), -3);
        Check.due("-1 / 2", told(11, -1, 2), 0);
    }

    private static void rests() {
        Check.due("MIN % -1", told(12, MIN, -1), 0);
        Check.due("-7 % 2", told(12, -7, 2), -1);
        Check.due("7 % -2", told(12, 7, -2), 1);
        Check.due("MAX % MIN", told(12, MAX, MIN), MAX);
        Check.due("MIN % MAX", told(12, MIN, MAX), -1);
    }

    // Terms: 13 1 if a is below b, else 0. 14 1 if a and b tell the same OBJECT, or none both, else 0.

    private static void below() {
        Check.due("0 below 0", told(13, 0, 0), 0);
        Check.due("0 below 1", told(13, 0, 1), 1);
        Check.due("1 below 0", told(13, 1, 0), 0);
        Check.due("MIN below MAX", told(13, MIN, MAX), 1);
        Check.due("MAX below MIN", told(13, MAX, MIN), 0);
        Check.due("MIN below MIN", told(13, MIN, MIN), 0);
        Check.due("MIN below 1", told(13, MIN, 1), 1);
    }

    private static void sameObjectOrNoneBoth() {
        MemberScores m = Make.objects(NODE, NODE, NODE);
        int x = Make.x(m);
        int nextX = Make.of(m, 5, x);
        int nextY = Make.of(m, 5, Make.y(m));
        Make.rule(m, 4, Make.both(m, 14, nextX, nextY));
        Make.rule(m, 0, Make.both(m, 14, nextX, x));
        Check.due("none both", m.mark(0, 0, 1), 1);
        m.link(0, 2);
        Check.due("one and none", m.mark(0, 0, 1), 0);
        Check.due("none and one", m.mark(0, 1, 0), 0);
        m.link(1, 2);
        Check.due("the same", m.mark(0, 0, 1), 1);
        m.link(1, 1);
        Check.due("two, alike in A and B", m.mark(0, 0, 1), 0);
        Check.due("itself", m.mark(1, 1, NONE), 1);
        Check.due("not itself", m.mark(1, 0, NONE), 0);
    }

    // Terms: 15 b, if a is not 0, else c. Their parts are worked from left to right (of 15 a, then that one).

    private static void choiceWorksOneAlone() {
        MemberScores m = Make.objects(THING);
        int x = Make.x(m);
        int c = Make.count(m);
        int two = Make.both(m, 9, c, c);
        Make.rule(m, 0, m.expression(15, Make.of(m, 3, x), c, two));
        Check.due("0: c", m.mark(0, 0, NONE), -1);
        Check.due("c alone", m.about(6), 2);
        int counted = 2;
        for (int a : new int[] {1, -1, MIN, MAX}) {
            m.set(0, 0, a);
            Check.due(a + ": b", m.mark(0, 0, NONE), counted);
            counted++;
            Check.due("b alone", m.about(6), counted);
        }
    }

    // Terms: 16 1 if a tells an OBJECT that is a SORT b (a LIST is a NODE, that a THING), else 0.

    private static void sortsOfObjects() {
        MemberScores m = Make.objects(THING, NODE, LIST);
        int x = Make.x(m);
        int y = Make.y(m);
        for (int sort = 0; sort <= 2; sort++) {
            Make.rule(m, 0, m.expression(16, x, sort, 0));
            Make.rule(m, 0, m.expression(16, y, sort, 0));
            for (int object = 0; object <= 2; object++) {
                Check.due(object + " is a " + sort, m.mark(2 * sort, object, NONE), object >= sort ? 1 : 0);
                Check.due("none is a " + sort, m.mark(2 * sort + 1, object, NONE), 0);
            }
        }
        Check.due("no FAULT by none", m.about(8), 0);
    }

    // Terms: 17 COUNT: how often COUNT was worked before, modulo 8.

    private static void countGoesRoundAtEight() {
        MemberScores m = Make.alike(16, THING);
        Make.rule(m, 0, Make.count(m));
        m.score(0);
        for (int object = 0; object < 16; object++) {
            Check.due("COUNT " + object, m.mark(0, object, NONE), object % 8);
        }
        Check.due("16 times", m.about(6), 16);
    }

    private static void countFromLeftToRight() {
        MemberScores m = Make.objects(LIST);
        int c = Make.count(m);
        int ten = Make.number(m, 10);
        int x = Make.x(m);
        int first = Make.both(m, 10, c, ten);
        Make.rule(m, 0, Make.both(m, 8, Make.both(m, 10, first, ten), Make.both(m, 8, first, c)));
        Check.due("0, 1, 2", m.mark(0, 0, NONE), 12);
        Make.rule(m, 0, Make.both(m, 13, c, c));
        Check.due("3 below 4", m.mark(1, 0, NONE), 1);
        m.row(0, 8);
        m.item(0, 5, 55);
        Make.rule(m, 0, Make.both(m, 6, x, c));
        Check.due("place 5", m.mark(2, 0, NONE), 55);
        Make.rule(m, 0, m.expression(15, c, c, ten));
        Check.due("6, then 7", m.mark(3, 0, NONE), 7);
    }

    // Terms: FAULTS end a call.

    private static void afterAFaultNothingMore() {
        MemberScores m = Make.objects(THING);
        int x = Make.x(m);
        int c = Make.count(m);
        int zero = Make.number(m, 0);
        int fails = Make.both(m, 12, Make.of(m, 3, x), zero);
        int b = Make.of(m, 4, x);
        int late = Make.both(m, 8, c, b);
        Make.rule(m, 0, Make.both(m, 8, fails, late));
        Make.rule(m, 0, m.expression(15, fails, late, late));
        Make.rule(m, 0, Make.both(m, 6, x, Make.both(m, 8, fails, late)));
        Make.rule(m, 0, Make.both(m, 8, Make.both(m, 8, zero, fails), m.expression(15, late, late, late)));
        for (int rule = 0; rule <= 3; rule++) {
            dueFault("RULE " + rule, m, rule, 0, ZERO);
            Check.due("B is not READ", m.reads(rule, 0, NONE, 0), 1);
        }
        Check.due("COUNT is not worked", m.about(6), 0);
    }

    // Terms: 0 EMPTY: there is no OBJECT (3 to 7), or no ROW; 1 CAST: it is no NODE (5), no LIST (6, 7).

    private static void noObject() {
        MemberScores m = Make.objects(NODE);
        int next = Make.of(m, 5, Make.x(m));
        int zero = Make.number(m, 0);
        Make.rule(m, 0, Make.of(m, 3, next));
        Make.rule(m, 0, Make.of(m, 4, next));
        Make.rule(m, 0, Make.of(m, 3, Make.of(m, 5, next)));
        Make.rule(m, 0, Make.both(m, 6, next, zero));
        Make.rule(m, 0, Make.of(m, 7, next));
        for (int rule = 0; rule <= 4; rule++) {
            dueFault("of none, RULE " + rule, m, rule, 0, EMPTY);
            Check.due("NEXT alone is READ", m.reads(rule, 0, NONE, 0), 4);
        }
        m.link(0, 0);
        Check.due("A of itself", m.mark(0, 0, NONE), 0);
        Check.due("B of itself", m.mark(1, 0, NONE), 0);
        Check.due("A of NEXT of itself", m.mark(2, 0, NONE), 0);
    }

    private static void castOfNext() {
        MemberScores m = Make.objects(THING, NODE, LIST);
        int x = Make.x(m);
        Make.rule(m, 0, Make.both(m, 14, Make.of(m, 5, x), Make.y(m)));
        dueFault("NEXT of a THING", m, 0, 0, CAST);
        Check.due("NEXT of a NODE", m.mark(0, 1, NONE), 1);
        Check.due("NEXT of a LIST", m.mark(0, 2, NONE), 1);
    }

    private static void castOfRow() {
        MemberScores m = Make.objects(THING, NODE, LIST);
        int x = Make.x(m);
        int places = Make.rule(m, 0, Make.both(m, 6, x, Make.number(m, 0)));
        int lengths = Make.rule(m, 0, Make.of(m, 7, x));
        m.row(2, 1);
        for (int object = 0; object <= 1; object++) {
            dueFault("a place of " + object, m, places, object, CAST);
            dueFault("the length of " + object, m, lengths, object, CAST);
        }
        Check.due("a place of a LIST", m.mark(places, 2, NONE), 0);
        Check.due("the length of a LIST", m.mark(lengths, 2, NONE), 1);
    }

    private static void noRow() {
        MemberScores m = Make.objects(LIST);
        int x = Make.x(m);
        Make.rule(m, 0, Make.both(m, 6, x, Make.number(m, -1)));
        Make.rule(m, 0, Make.of(m, 7, x));
        dueFault("no ROW before no such place", m, 0, 0, EMPTY);
        dueFault("no ROW has no length", m, 1, 0, EMPTY);
        m.row(0, 0);
        dueFault("an empty ROW has no place", m, 0, 0, INDEX);
        Check.due("an empty ROW has a length", m.mark(1, 0, NONE), 0);
        m.row(0, NONE);
        dueFault("no ROW again", m, 0, 0, EMPTY);
    }

    // Terms: 2 INDEX: no such place. 7 how many its ROW has.

    private static void noSuchPlace() {
        MemberScores m = Make.objects(LIST);
        int x = Make.x(m);
        Make.rule(m, 0, Make.both(m, 6, x, Make.of(m, 3, x)));
        Make.rule(m, 0, Make.of(m, 7, x));
        for (int n = 0; n <= 8; n++) {
            m.row(0, n);
            for (int i = 0; i < n; i++) {
                m.item(0, i, 100 + i);
            }
            Check.due("it has " + n, m.mark(1, 0, NONE), n);
            for (int i : new int[] {-1, n, n + 1, 8, 9, MIN, MAX}) {
                m.set(0, 0, i);
                m.row(0, n);
                dueFault("place " + i + " of " + n, m, 0, 0, INDEX);
            }
        }
        for (int i = 0; i < 8; i++) {
            m.item(0, i, 100 + i);
            m.set(0, 0, i);
            Check.due("place " + i, m.mark(0, 0, NONE), 100 + i);
        }
    }

    // Terms: 3 ZERO: / or % by 0.

    private static void divisionByZero() {
        for (int kind = 11; kind <= 12; kind++) {
            for (int a : new int[] {0, 1, MIN, MAX}) {
                MemberScores m = Make.objects(THING);
                Make.rule(m, 0, Make.both(m, kind, Make.number(m, a), Make.number(m, 0)));
                dueFault("kind " + kind + " of " + a + " and 0", m, 0, 0, ZERO);
            }
            Check.due("0 by the least", told(kind, 0, MIN), 0);
        }
    }

    // Terms: Of several the first one; of 6, 7: no OBJECT, CAST, no ROW, INDEX.

    private static void ofSeveralTheFirst() {
        MemberScores m = Make.objects(NODE, LIST, THING);
        int x = Make.x(m);
        int next = Make.of(m, 5, x);
        int zero = Make.number(m, 0);
        int fails = Make.both(m, 11, zero, zero);
        Make.rule(m, 1, Make.both(m, 6, next, fails));
        Make.rule(m, 1, Make.both(m, 6, next, Make.number(m, 9)));
        Make.rule(m, 1, Make.both(m, 6, Make.of(m, 5, next), fails));
        Make.rule(m, 1, Make.both(m, 11, Make.of(m, 3, next), zero));
        dueFault("the place's FAULT before no OBJECT", m, 0, 0, ZERO);
        dueFault("no OBJECT before the place", m, 1, 0, EMPTY);
        dueFault("the OBJECT's FAULT before the place's", m, 2, 0, EMPTY);
        dueFault("a's FAULT before / by 0", m, 3, 0, EMPTY);
        m.link(0, 2);
        dueFault("the place's FAULT before CAST", m, 0, 0, ZERO);
        dueFault("CAST before no ROW and the place", m, 1, 0, CAST);
        dueFault("CAST of NEXT before the place's", m, 2, 0, CAST);
        dueFault("/ by 0", m, 3, 0, ZERO);
        m.link(0, 1);
        dueFault("the place's FAULT before no ROW", m, 0, 0, ZERO);
        dueFault("no ROW before the place", m, 1, 0, EMPTY);
        m.row(1, 8);
        dueFault("the place", m, 1, 0, INDEX);
    }

    // Terms: READ are FIELDS as they are looked at (ROW also if there is none, or no such place).

    private static void readsOfEachField() {
        MemberScores m = Make.objects(LIST);
        int x = Make.x(m);
        m.row(0, 1);
        Make.rule(m, 0, Make.of(m, 3, x));
        Make.rule(m, 0, Make.of(m, 4, x));
        Make.rule(m, 0, Make.both(m, 14, Make.of(m, 5, x), x));
        Make.rule(m, 0, Make.of(m, 7, x));
        Make.rule(m, 0, Make.both(m, 6, x, Make.number(m, 0)));
        Make.rule(m, 0, m.expression(16, x, 2, 0));
        Make.rule(m, 0, Make.both(m, 14, x, x));
        Make.rule(m, 0, Make.count(m));
        m.score(0);
        int[] want = {1, 2, 4, 8, 8, 0, 0, 0};
        for (int rule = 0; rule < want.length; rule++) {
            Check.due("RULE " + rule + " READ", m.reads(rule, 0, NONE, 0), want[rule]);
        }
    }

    private static void readsOfAFault() {
        MemberScores m = Make.objects(THING, NODE, LIST);
        int x = Make.x(m);
        int zero = Make.number(m, 0);
        Make.rule(m, 0, Make.both(m, 14, Make.of(m, 5, x), x));
        Make.rule(m, 0, Make.of(m, 7, x));
        Make.rule(m, 0, Make.both(m, 6, x, zero));
        m.failed(0);
        Check.due("NEXT of a THING", m.reads(0, 0, NONE, 0), 0);
        Check.due("the length of a NODE", m.reads(1, 1, NONE, 1), 0);
        Check.due("a place of a NODE", m.reads(2, 1, NONE, 1), 0);
        Check.due("the length of no ROW", m.reads(1, 2, NONE, 2), 8);
        Check.due("a place of no ROW", m.reads(2, 2, NONE, 2), 8);
        m.row(2, 0);
        m.failed(0);
        Check.due("no such place", m.reads(2, 2, NONE, 2), 8);
        m.row(2, 1);
        Check.due("mended", m.mark(2, 2, NONE), 0);
    }
}
