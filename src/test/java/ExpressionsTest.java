/** Promise 7, and what the KINDS of EXPRESSIONS tell, read and fail by. */
public final class ExpressionsTest {
    private static final int NONE = MemberScores.NONE, UNKNOWN = MemberScores.UNKNOWN;
    private static final int OUTSIDE = MemberScores.OUTSIDE, ROOM = MemberScores.ROOM;
    private static final int MIN = Integer.MIN_VALUE, MAX = Integer.MAX_VALUE;
    private static final int OBJECT_EMPTY = 0, FAULT_CAST = 1, FAULT_INDEX = 2, FAULT_ZERO = 3;

    public static void main(String[] args) {
        promise7Refusals();
        promise7WhatIsNotLookedAt();
        promise7Types();
        promise7Size();
        promise7Depth();
        promise7Room();
        arithmetic();
        comparing();
        choice();
        sorts();
        count();
        looking();
        rowFaults();
        orderOfFaults();
        Check.end();
    }

    /** The int that kind tells of the numbers a and b. */
    private static int told(int kind, int a, int b) {
        MemberScores m = new MemberScores();
        m.object(0);
        int left = m.expression(0, a, 0, 0);
        int right = m.expression(0, b, 0, 0);
        m.rule(0, 0, 1, m.expression(kind, left, right, 0));
        return m.mark(0, 0, NONE);
    }

    private static void promise7Refusals() {
        MemberScores m = new MemberScores();
        Check.due("kind -1", m.expression(-1, 9, 9, 9), OUTSIDE);
        Check.due("kind 18", m.expression(18, 9, 9, 9), OUTSIDE);
        Check.due("X", m.expression(1, 0, 0, 0), 0);
        Check.due("number", m.expression(0, 5, 0, 0), 1);
        for (int kind = 3; kind <= 16; kind++) {
            Check.due("a is UNKNOWN, kind " + kind, m.expression(kind, 2, 0, 0), UNKNOWN);
            Check.due("a is -1, kind " + kind, m.expression(kind, -1, 9, 0), UNKNOWN);
        }
        for (int kind = 8; kind <= 15; kind++) {
            Check.due("b is UNKNOWN, kind " + kind, m.expression(kind, 0, 2, 0), UNKNOWN);
        }
        Check.due("b is UNKNOWN, kind 6", m.expression(6, 1, 2, 0), UNKNOWN);
        Check.due("c is UNKNOWN", m.expression(15, 0, 0, 2), UNKNOWN);
        Check.due("sort -1", m.expression(16, 0, -1, 0), OUTSIDE);
        Check.due("sort 3", m.expression(16, 0, 3, 0), OUTSIDE);
        Check.due("sort 3 of UNKNOWN", m.expression(16, 7, 3, 0), UNKNOWN);
        Check.due("what is refused changes nothing", m.about(1), 2);
    }

    private static void promise7WhatIsNotLookedAt() {
        MemberScores m = new MemberScores();
        Check.due("0", m.expression(0, MIN, 99, -9), 0);
        Check.due("1", m.expression(1, 99, 99, 99), 1);
        Check.due("2", m.expression(2, -9, -9, -9), 2);
        Check.due("3", m.expression(3, 1, 99, 99), 3);
        Check.due("4", m.expression(4, 1, -9, -9), 4);
        Check.due("5", m.expression(5, 1, 99, 99), 5);
        Check.due("6", m.expression(6, 1, 0, 99), 6);
        Check.due("7", m.expression(7, 1, 99, 99), 7);
        Check.due("8", m.expression(8, 0, 0, 99), 8);
        Check.due("14", m.expression(14, 1, 2, 99), 9);
        Check.due("16", m.expression(16, 1, 0, 99), 10);
        Check.due("17", m.expression(17, 99, 99, 99), 11);
        m.object(2);
        m.row(0, 1);
        m.link(0, 0);
        m.set(0, 0, 6);
        m.set(0, 1, 7);
        Check.due("A of NEXT", m.expression(3, 5, 99, -9), 12);
        int[] made = {3, 4, 7, 10, 11, 12};
        int[] want = {6, 7, 1, 1, 0, 6};
        for (int i = 0; i < made.length; i++) {
            m.rule(0, 0, 1, made[i]);
            Check.due("what is not looked at is not worked, " + made[i], m.mark(i, 0, NONE), want[i]);
        }
    }

    private static void promise7Types() {
        MemberScores m = new MemberScores();
        int x = m.expression(1, 0, 0, 0);
        int n = m.expression(0, 1, 0, 0);
        for (int kind = 3; kind <= 7; kind++) {
            Check.due("an int for an OBJECT, kind " + kind, m.expression(kind, n, n, 0), OUTSIDE);
        }
        Check.due("an OBJECT for a place", m.expression(6, x, x, 0), OUTSIDE);
        for (int kind = 8; kind <= 13; kind++) {
            Check.due("an OBJECT for a, kind " + kind, m.expression(kind, x, n, 0), OUTSIDE);
            Check.due("an OBJECT for b, kind " + kind, m.expression(kind, n, x, 0), OUTSIDE);
        }
        Check.due("14 of int, OBJECT", m.expression(14, n, x, 0), OUTSIDE);
        Check.due("14 of OBJECT, int", m.expression(14, x, n, 0), OUTSIDE);
        Check.due("15 if OBJECT", m.expression(15, x, n, n), OUTSIDE);
        Check.due("15 then OBJECT", m.expression(15, n, x, n), OUTSIDE);
        Check.due("15 else OBJECT", m.expression(15, n, n, x), OUTSIDE);
        Check.due("16 of an int", m.expression(16, n, 0, 0), OUTSIDE);
        Check.due("about(1)", m.about(1), 2);
        Check.due("NEXT", m.expression(5, x, 0, 0), 2);
        Check.due("NEXT tells an OBJECT", m.expression(5, 2, 0, 0), 3);
        Check.due("Y", m.expression(2, 0, 0, 0), 4);
        Check.due("Y tells an OBJECT", m.expression(14, 4, 3, 0), 5);
        for (int kind = 3; kind <= 17; kind++) {
            if (kind != 5) {
                int a = kind >= 8 && kind <= 13 || kind == 15 ? n : x;
                int made = m.expression(kind, a, kind == 14 ? x : n, n);
                Check.due("kind " + kind + " tells an int", m.expression(8, made, n, 0), made + 1);
            }
        }
    }

    private static void promise7Size() {
        MemberScores m = new MemberScores();
        int n = m.expression(0, 1, 0, 0);
        int two = m.expression(15, n, n, n);
        Check.due("SIZE 4", two, 1);
        int size13 = m.expression(15, two, two, two);
        int size40 = m.expression(15, size13, size13, size13);
        int size54 = m.expression(8, size40, size13, 0);
        int size59 = m.expression(8, size54, two, 0);
        Check.due("SIZE 59", size59, 5);
        Check.due("SIZE 61", m.expression(8, size59, n, 0), ROOM);
        Check.due("SIZE 59 + 4 + 1", m.expression(8, two, size59, 0), ROOM);
        int size57 = m.expression(15, size54, n, n);
        Check.due("SIZE 57", size57, 6);
        int size60 = m.expression(15, size57, n, n);
        Check.due("SIZE 60", size60, 7);
        Check.due("SIZE 62", m.expression(8, size60, n, 0), ROOM);
        Check.due("SIZE 63 by c", m.expression(15, n, n, size60), ROOM);
        Check.due("about(1)", m.about(1), 8);
    }

    private static void promise7Depth() {
        MemberScores m = new MemberScores();
        m.object(1);
        m.object(1);
        m.link(0, 1);
        m.link(1, 0);
        int deepest = m.expression(1, 0, 0, 0);
        for (int size = 2; size <= 59; size++) {
            deepest = m.expression(5, deepest, 0, 0);
        }
        int a = m.expression(3, deepest, 0, 0);
        Check.due("A after 58 NEXTS", a, 59);
        int next = m.expression(5, deepest, 0, 0);
        Check.due("SIZE 60 of NEXTS", next, 60);
        Check.due("SIZE 61 of NEXTS", m.expression(5, next, 0, 0), ROOM);
        m.set(0, 0, 3);
        m.rule(1, 0, 1, a);
        Check.due("A after 58 NEXTS of 0", m.mark(0, 0, NONE), 3);
        Check.due("A after 58 NEXTS of 1", m.mark(0, 1, NONE), 0);
        Check.due("reads of 0", m.reads(0, 0, NONE, 0), 5);
        Check.due("reads of 1", m.reads(0, 0, NONE, 1), 4);
    }

    private static void promise7Room() {
        MemberScores m = new MemberScores();
        for (int i = 0; i < 80; i++) {
            Check.due("expression " + i, m.expression(0, i, 0, 0), i);
        }
        Check.due("the 81st", m.expression(0, 0, 0, 0), ROOM);
        Check.due("the 81st, UNKNOWN", m.expression(8, 0, 80, 0), UNKNOWN);
        Check.due("the 81st, OUTSIDE", m.expression(3, 0, 0, 0), OUTSIDE);
        Check.due("about(1)", m.about(1), 80);
    }

    private static void arithmetic() {
        Check.due("+", told(8, 3, -5), -2);
        Check.due("+ wraps", told(8, MAX, 1), MIN);
        Check.due("-", told(9, 3, -5), 8);
        Check.due("- wraps", told(9, MIN, 1), MAX);
        Check.due("times", told(10, 3, -5), -15);
        Check.due("times wraps", told(10, 65536, 65536), 0);
        Check.due("/", told(11, 7, 2), 3);
        Check.due("/ below 0", told(11, -7, 2), -3);
        Check.due("/ wraps", told(11, MIN, -1), MIN);
        Check.due("%", told(12, 7, 2), 1);
        Check.due("% below 0", told(12, -7, 2), -1);
        Check.due("% of the least", told(12, MIN, -1), 0);
        Check.dueThrow("/ 0", ArithmeticException.class, () -> told(11, 7, 0));
        Check.dueThrow("% 0", ArithmeticException.class, () -> told(12, 0, 0));
        Check.due("0 / 7", told(11, 0, 7), 0);
    }

    private static void comparing() {
        Check.due("1 below 2", told(13, 1, 2), 1);
        Check.due("2 below 2", told(13, 2, 2), 0);
        Check.due("3 below 2", told(13, 3, 2), 0);
        Check.due("least below most", told(13, MIN, MAX), 1);
        MemberScores m = new MemberScores();
        m.object(0);
        m.object(1);
        int x = m.expression(1, 0, 0, 0);
        int y = m.expression(2, 0, 0, 0);
        int next = m.expression(5, y, 0, 0);
        m.rule(0, 0, 1, m.expression(14, x, x, 0));
        m.rule(0, 0, 1, m.expression(14, x, y, 0));
        m.rule(0, 0, 1, m.expression(14, y, y, 0));
        m.rule(4, 0, 1, m.expression(14, x, y, 0));
        m.rule(3, 0, 1, m.expression(14, next, x, 0));
        Check.due("X is X", m.mark(0, 0, NONE), 1);
        Check.due("X is not none", m.mark(1, 0, NONE), 0);
        Check.due("none is none", m.mark(2, 0, NONE), 1);
        Check.due("X is not Y", m.mark(3, 0, 1), 0);
        Check.due("none is not X", m.mark(4, 0, 1), 0);
        m.link(1, 0);
        Check.due("NEXT of Y is X", m.mark(4, 0, 1), 1);
        Check.due("14 reads NEXT alone", m.reads(4, 0, 1, 1), 4);
        Check.due("14 reads nothing of X", m.reads(4, 0, 1, 0), 0);
    }

    private static void choice() {
        MemberScores m = new MemberScores();
        m.object(0);
        int x = m.expression(1, 0, 0, 0);
        int a = m.expression(3, x, 0, 0);
        int b = m.expression(4, x, 0, 0);
        int zero = m.expression(0, 0, 0, 0);
        int seven = m.expression(0, 7, 0, 0);
        int fails = m.expression(11, seven, zero, 0);
        m.rule(0, 0, 1, m.expression(15, a, seven, b));
        m.rule(0, 0, 1, m.expression(15, a, fails, seven));
        m.rule(0, 0, 1, m.expression(15, fails, seven, seven));
        Check.due("else", m.mark(0, 0, NONE), 0);
        Check.due("else reads A, B", m.reads(0, 0, NONE, 0), 3);
        Check.due("then is not worked", m.mark(1, 0, NONE), 7);
        m.set(0, 0, -1);
        Check.due("then", m.mark(0, 0, NONE), 7);
        Check.due("then reads A", m.reads(0, 0, NONE, 0), 1);
        Check.dueThrow("then is worked", ArithmeticException.class, () -> m.mark(1, 0, NONE));
        Check.dueThrow("the condition fails", ArithmeticException.class, () -> m.mark(2, 0, NONE));
    }

    private static void sorts() {
        MemberScores m = new MemberScores();
        int x = m.expression(1, 0, 0, 0);
        int y = m.expression(2, 0, 0, 0);
        for (int sort = 0; sort <= 2; sort++) {
            m.object(sort);
            m.rule(0, 0, 1, m.expression(16, x, sort, 0));
        }
        m.rule(0, 0, 1, m.expression(16, y, 0, 0));
        for (int object = 0; object <= 2; object++) {
            for (int sort = 0; sort <= 2; sort++) {
                Check.due(object + " is a " + sort, m.mark(sort, object, NONE), object >= sort ? 1 : 0);
                Check.due("16 reads nothing", m.reads(sort, object, NONE, object), 0);
            }
            Check.due("none is no THING", m.mark(3, object, NONE), 0);
        }
    }

    private static void count() {
        MemberScores m = new MemberScores();
        m.object(0);
        int c = m.expression(17, 0, 0, 0);
        int ten = m.expression(0, 10, 0, 0);
        int left = m.expression(10, c, ten, 0);
        m.rule(0, 0, 1, m.expression(8, left, c, 0));
        m.rule(0, 0, 1, c);
        Check.due("from left to right", m.mark(0, 0, NONE), 1);
        Check.due("about(6)", m.about(6), 2);
        Check.due("once worked", m.mark(0, 0, NONE), 1);
        for (int i = 0; i < 3; i++) {
            m.unlike(0);
        }
        Check.due("about(6) after unlike", m.about(6), 14);
        Check.due("14 modulo 8", m.mark(1, 0, NONE), 6);
    }

    private static void looking() {
        MemberScores m = new MemberScores();
        m.object(0);
        m.object(1);
        int x = m.expression(1, 0, 0, 0);
        int y = m.expression(2, 0, 0, 0);
        int zero = m.expression(0, 0, 0, 0);
        int next = m.expression(5, x, 0, 0);
        int same = m.expression(14, next, y, 0);
        m.rule(0, 0, 1, m.expression(3, y, 0, 0));
        m.rule(0, 0, 1, m.expression(4, y, 0, 0));
        m.rule(0, 0, 1, m.expression(14, m.expression(5, y, 0, 0), x, 0));
        m.rule(0, 0, 1, m.expression(6, y, zero, 0));
        m.rule(0, 0, 1, m.expression(7, y, 0, 0));
        for (int rule = 0; rule <= 4; rule++) {
            int asked = rule;
            Check.dueThrow("of none, " + rule, NullPointerException.class, () -> m.mark(asked, 0, NONE));
        }
        m.rule(0, 0, 1, same);
        Check.dueThrow("NEXT of a THING", ClassCastException.class, () -> m.mark(5, 0, NONE));
        Check.due("it read nothing", m.reads(5, 0, NONE, 0), 0);
        Check.due("NEXT of a NODE", m.mark(5, 1, NONE), 1);
        Check.due("it read NEXT", m.reads(5, 1, NONE, 1), 4);
    }

    private static void rowFaults() {
        MemberScores m = new MemberScores();
        m.object(2);
        m.object(1);
        int x = m.expression(1, 0, 0, 0);
        int a = m.expression(3, x, 0, 0);
        m.rule(0, 0, 1, m.expression(6, x, a, 0));
        m.rule(0, 0, 1, m.expression(7, x, 0, 0));
        Check.due("failed", m.failed(3), OBJECT_EMPTY);
        Check.due("no ROW is READ", m.reads(0, 0, NONE, 0), 9);
        Check.due("no ROW is READ for its length", m.reads(1, 0, NONE, 0), 8);
        Check.dueThrow("6 of a NODE", ClassCastException.class, () -> m.mark(0, 1, NONE));
        Check.due("no ROW of a NODE is READ", m.reads(0, 1, NONE, 1), 1);
        Check.dueThrow("7 of a NODE", ClassCastException.class, () -> m.mark(1, 1, NONE));
        m.row(0, 0);
        Check.due("length 0", m.mark(1, 0, NONE), 0);
        Check.due("INDEX", m.failed(3), FAULT_INDEX);
        Check.due("ROW is READ where there is no such place", m.reads(0, 0, NONE, 0), 9);
        m.row(0, 8);
        m.item(0, 7, 70);
        m.item(0, 0, 50);
        Check.due("the first place", m.mark(0, 0, NONE), 50);
        m.set(0, 0, 7);
        Check.due("the last place", m.mark(0, 0, NONE), 70);
        m.set(0, 0, 8);
        Check.dueThrow("place 8", ArrayIndexOutOfBoundsException.class, () -> m.mark(0, 0, NONE));
        m.set(0, 0, -1);
        Check.dueThrow("place -1", ArrayIndexOutOfBoundsException.class, () -> m.mark(0, 0, NONE));
        m.set(0, 0, MIN);
        Check.dueThrow("place MIN", ArrayIndexOutOfBoundsException.class, () -> m.mark(0, 0, NONE));
    }

    private static void orderOfFaults() {
        MemberScores m = new MemberScores();
        m.object(0);
        int x = m.expression(1, 0, 0, 0);
        int y = m.expression(2, 0, 0, 0);
        int zero = m.expression(0, 0, 0, 0);
        int divides = m.expression(11, zero, zero, 0);
        int next = m.expression(5, x, 0, 0);
        int nextA = m.expression(3, next, 0, 0);
        m.rule(0, 0, 1, m.expression(6, y, divides, 0));
        m.rule(0, 0, 1, m.expression(6, x, divides, 0));
        m.rule(0, 0, 1, m.expression(8, nextA, divides, 0));
        m.rule(0, 0, 1, m.expression(8, divides, nextA, 0));
        m.rule(0, 0, 1, m.expression(11, nextA, zero, 0));
        Check.dueThrow("the place is worked before X is looked at", ArithmeticException.class, () -> m.mark(0, 0, NONE));
        Check.dueThrow("the place is worked before the sort", ArithmeticException.class, () -> m.mark(1, 0, NONE));
        Check.dueThrow("left first", ClassCastException.class, () -> m.mark(2, 0, NONE));
        Check.dueThrow("right after it", ArithmeticException.class, () -> m.mark(3, 0, NONE));
        Check.dueThrow("parts before / by 0", ClassCastException.class, () -> m.mark(4, 0, NONE));
        Check.due("one FAULT for each CALL", m.about(8), 5);
        Check.due("failed(3)", m.failed(3), FAULT_ZERO);
        m.turn(0, false);
        m.turn(1, false);
        Check.due("failed(3) of the third", m.failed(3), FAULT_CAST);
    }
}
