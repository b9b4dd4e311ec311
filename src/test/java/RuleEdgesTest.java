/** Promises 8 and 9 and the terms of RULES at their edges; the words of the document stand above the tests of them. */
public final class RuleEdgesTest {
    private static final int NONE = MemberScores.NONE, UNKNOWN = MemberScores.UNKNOWN;
    private static final int OUTSIDE = MemberScores.OUTSIDE, ROOM = MemberScores.ROOM;
    private static final int MIN = Make.MIN, MAX = Make.MAX;
    private static final int THING = 0, NODE = 1, LIST = 2;

    public static void main(String[] args) {
        ruleOfNoExpression();
        ruleOverOutside();
        ruleLevelOutside();
        ruleWeightOutside();
        ruleOfAnObject();
        ruleUnknownBeforeOutside();
        ruleTheEighthIsTheLast();
        ruleRefusalsWhenFull();
        overSorts();
        overFewObjects();
        overSixteenObjects();
        callsStandByXThenByY();
        newObjectsCallsStandAmongTheOthers();
        turnUnknown();
        turnNewOrNot();
        turnChangesNothingElse();
        freshWhenNeverWorked();
        freshByEachFieldThatWasRead();
        freshByThatFieldAlone();
        freshSinceItWasWorkedLast();
        freshWhileOff();
        freshAfterAFault();
        freshIsNotWhatReadNothing();
        settledByRulesThenInOrder();
        settledFreshOnesAlone();
        Check.end();
    }

    private static MemberScores withNumber(int objects) {
        MemberScores m = Make.alike(objects, THING);
        Make.number(m, 1);
        return m;
    }

    private static int isCall(MemberScores m, int rule, int x, int y) {
        return m.reads(rule, x, y, 0) == UNKNOWN ? 0 : 1;
    }

    // Promise 8: UNKNOWN (expression), OUTSIDE (over 0 .. 4; level; weight -1000 .. 1000; ..no int), ROOM.

    private static void ruleOfNoExpression() {
        MemberScores m = withNumber(1);
        for (int expression : new int[] {-1, 1, 79, 80, MIN, MAX}) {
            Check.due("rule of " + expression, m.rule(0, 0, 0, expression), UNKNOWN);
        }
        Check.due("no RULE", m.about(2), 0);
    }

    private static void ruleOverOutside() {
        MemberScores m = withNumber(1);
        for (int over : new int[] {-1, 5, 6, MIN, MAX}) {
            Check.due("OVER " + over, m.rule(over, 0, 0, 0), OUTSIDE);
        }
        for (int over = 0; over <= 4; over++) {
            Check.due("OVER " + over, m.rule(over, 0, 0, 0), over);
        }
    }

    private static void ruleLevelOutside() {
        MemberScores m = withNumber(1);
        for (int level : new int[] {-1, 3, 4, MIN, MAX}) {
            Check.due("LEVEL " + level, m.rule(0, level, 0, 0), OUTSIDE);
        }
        for (int level = 0; level <= 2; level++) {
            Check.due("LEVEL " + level, m.rule(0, level, 1 + level, 0), level);
        }
        for (int level = 0; level <= 2; level++) {
            Check.due("SCORE of LEVEL " + level, m.score(level), 1 + level);
        }
    }

    private static void ruleWeightOutside() {
        MemberScores m = withNumber(1);
        for (int weight : new int[] {-1001, 1001, MIN, MAX}) {
            Check.due("WEIGHT " + weight, m.rule(0, 0, weight, 0), OUTSIDE);
        }
        int[] weights = {-1000, -999, -1, 0, 1, 999, 1000};
        for (int i = 0; i < weights.length; i++) {
            Check.due("WEIGHT " + weights[i], m.rule(0, 0, weights[i], 0), i);
            for (int other = 0; other < i; other++) {
                m.turn(other, false);
            }
            Check.due("SCORE by WEIGHT " + weights[i], m.score(0), weights[i]);
        }
    }

    private static void ruleOfAnObject() {
        MemberScores m = new MemberScores();
        int x = Make.x(m);
        int y = Make.y(m);
        int next = Make.of(m, 5, y);
        for (int over = 0; over <= 4; over++) {
            for (int object : new int[] {x, y, next}) {
                Check.due("OVER " + over + ", an OBJECT " + object, Make.rule(m, over, object), OUTSIDE);
            }
        }
        Check.due("no RULE", m.about(2), 0);
        Check.due("16 tells an int", Make.rule(m, 0, m.expression(16, next, 0, 0)), 0);
    }

    private static void ruleUnknownBeforeOutside() {
        MemberScores m = withNumber(1);
        Check.due("OVER 5", m.rule(5, 0, 0, 1), UNKNOWN);
        Check.due("LEVEL 3", m.rule(0, 3, 0, 1), UNKNOWN);
        Check.due("WEIGHT 1001", m.rule(0, 0, 1001, -1), UNKNOWN);
    }

    // Terms: RULES 0, 1, .. (8 at most) are ON (at first) or not.

    private static void ruleTheEighthIsTheLast() {
        MemberScores m = withNumber(1);
        for (int i = 0; i < 7; i++) {
            Check.due("RULE " + i, Make.rule(m, 0, 0), i);
        }
        Check.due("refused", m.rule(5, 0, 0, 0), OUTSIDE);
        Check.due("the 8th", Make.rule(m, 4, 0), 7);
        Check.due("the 9th", Make.rule(m, 0, 0), ROOM);
        Check.due("the 9th again", Make.rule(m, 4, 0), ROOM);
        Check.due("8 stand", m.about(2), 8);
        Check.due("7 CALLS", m.about(3), 7);
        Check.due("the 8th is there", m.turn(7, true), 0);
        Check.due("the 9th is not", m.turn(8, true), UNKNOWN);
        Check.due("SCORE of 8", m.score(0), 7);
    }

    private static void ruleRefusalsWhenFull() {
        MemberScores m = withNumber(1);
        int x = Make.x(m);
        for (int i = 0; i < 8; i++) {
            Make.rule(m, 0, 0);
        }
        Check.due("UNKNOWN before ROOM", m.rule(0, 0, 0, 2), UNKNOWN);
        Check.due("OVER before ROOM", m.rule(-1, 0, 0, 0), OUTSIDE);
        Check.due("LEVEL before ROOM", m.rule(0, 3, 0, 0), OUTSIDE);
        Check.due("WEIGHT before ROOM", m.rule(0, 0, -1001, 0), OUTSIDE);
        Check.due("an OBJECT before ROOM", m.rule(0, 0, 0, x), OUTSIDE);
        Check.due("nothing but ROOM", m.rule(0, 0, 0, 0), ROOM);
    }

    // Terms: OVER 0, 1, 2: all OBJECTS that are this SORT, as X; 3: all pairs, X the lesser number; 4: both ways.

    private static void overSorts() {
        MemberScores m = Make.objects(LIST, THING, NODE);
        Make.number(m, 1);
        int[] most = {3, 2, 1};
        int[] sorts = {LIST, THING, NODE};
        for (int over = 0; over <= 2; over++) {
            Make.rule(m, over, 0);
            for (int x = 0; x <= 2; x++) {
                Check.due("OVER " + over + ", X " + x, isCall(m, over, x, NONE), sorts[x] >= over ? 1 : 0);
                Check.due("OVER " + over + ", X " + x + " with itself", isCall(m, over, x, x), 0);
            }
            Check.due("SCORE OVER " + over, m.score(0), most[over]);
            m.turn(over, false);
        }
    }

    private static void overFewObjects() {
        MemberScores m = withNumber(0);
        for (int over = 0; over <= 4; over++) {
            Make.rule(m, over, 0);
        }
        Check.due("CALLS over no OBJECTS", m.about(3), 0);
        Check.due("FRESH ones of no OBJECTS", m.about(4), 0);
        Check.due("SCORE of no OBJECTS", m.score(0), 0);
        Check.due("failed of no OBJECTS", m.failed(0), NONE);
        Check.due("full of no OBJECTS", m.full(0), 0);
        Check.due("unlike of no OBJECTS", m.unlike(4), 0);
        Check.due("uneven of no OBJECTS", m.uneven(3), 0);
        m.object(THING);
        Check.due("CALLS over one THING", m.about(3), 1);
        Check.due("uneven of one THING", m.uneven(3), 0);
        Check.due("no pair with itself", isCall(m, 3, 0, 0) + isCall(m, 4, 0, 0), 0);
        m.object(NODE);
        Check.due("CALLS over a THING and a NODE", m.about(3), 2 + 1 + 1 + 2);
        Check.due("the lesser first", isCall(m, 3, 0, 1), 1);
        Check.due("not the greater first", isCall(m, 3, 1, 0), 0);
        Check.due("both ways, one", isCall(m, 4, 0, 1), 1);
        Check.due("both ways, the other", isCall(m, 4, 1, 0), 1);
    }

    private static void overSixteenObjects() {
        MemberScores m = Make.alike(16, LIST);
        Make.number(m, 1);
        int[] most = {16, 16, 16, 120, 240};
        int all = 0;
        for (int over = 0; over <= 4; over++) {
            Make.rule(m, over, 0);
            all += most[over];
            Check.due("CALLS of RULES OVER 0 .. " + over, m.about(3), all);
            Check.due("SCORE OVER 0 .. " + over, m.score(0), all);
            Check.due("in full", m.full(0), all);
        }
        Check.due("the last of OVER 3", m.mark(3, 14, 15), 1);
        Check.due("the last of OVER 4", m.mark(4, 15, 14), 1);
    }

    // Terms: CALLS of a RULE stand by X, then by Y.

    private static void callsStandByXThenByY() {
        MemberScores m = Make.alike(3, THING);
        int c = Make.count(m);
        Make.rule(m, 4, c);
        m.score(0);
        int counted = 0;
        for (int x = 0; x < 3; x++) {
            for (int y = 0; y < 3; y++) {
                if (x != y) {
                    Check.due("OVER 4, " + x + " " + y, m.mark(0, x, y), counted);
                    counted++;
                }
            }
        }
        m.turn(0, false);
        Make.rule(m, 3, c);
        m.score(0);
        Check.due("OVER 3, 0 1", m.mark(1, 0, 1), 6);
        Check.due("OVER 3, 0 2", m.mark(1, 0, 2), 7);
        Check.due("OVER 3, 1 2", m.mark(1, 1, 2), 0);
    }

    private static void newObjectsCallsStandAmongTheOthers() {
        MemberScores m = Make.alike(2, THING);
        Make.rule(m, 4, Make.count(m));
        m.score(0);
        m.object(THING);
        m.score(0);
        int[][] calls = {{0, 1, 0}, {1, 0, 1}, {0, 2, 2}, {1, 2, 3}, {2, 0, 4}, {2, 1, 5}};
        for (int[] c : calls) {
            Check.due(c[0] + " " + c[1], m.mark(0, c[0], c[1]), c[2]);
        }
    }

    // Promise 9: A RULE is ON, or not: 1 if that is new, else 0. UNKNOWN.

    private static void turnUnknown() {
        MemberScores m = withNumber(1);
        Make.rule(m, 0, 0);
        for (int rule : new int[] {-1, 1, 8, MIN, MAX}) {
            Check.due("turn " + rule + " on", m.turn(rule, true), UNKNOWN);
            Check.due("turn " + rule + " off", m.turn(rule, false), UNKNOWN);
        }
        Check.due("RULE 0 is ON still", m.about(3), 1);
    }

    private static void turnNewOrNot() {
        MemberScores m = withNumber(1);
        for (int rule = 0; rule < 8; rule++) {
            Make.rule(m, 0, 0);
            Check.due("ON at first", m.turn(rule, true), 0);
            Check.due("off", m.turn(rule, false), 1);
            Check.due("off again", m.turn(rule, false), 0);
            Check.due("ON", m.turn(rule, true), 1);
            Check.due("ON again", m.turn(rule, true), 0);
            Check.due("CALLS of all", m.about(3), rule + 1);
        }
    }

    private static void turnChangesNothingElse() {
        MemberScores m = withNumber(2);
        int c = Make.count(m);
        Make.rule(m, 0, c);
        Make.rule(m, 0, c);
        m.score(0);
        m.turn(0, false);
        Check.due("the other one's SCORE", m.score(0), 2 + 3);
        m.turn(0, true);
        Check.due("nothing is FRESH by it", m.about(4), 0);
        Check.due("both SCORES", m.score(0), 1 + 2 + 3);
        Check.due("nothing was worked again", m.about(5), 4);
    }

    // Terms: A CALL is FRESH (never worked, or a FIELD that it READ was changed since then).

    private static void freshWhenNeverWorked() {
        MemberScores m = withNumber(2);
        Make.rule(m, 0, 0);
        Check.due("never worked", m.about(4), 2);
        m.full(0);
        m.unlike(0);
        Check.due("nor kept", m.about(4), 2);
        m.mark(0, 1, NONE);
        Check.due("one is worked", m.about(4), 1);
        m.score(0);
        Check.due("both are", m.about(4), 0);
        m.object(THING);
        Check.due("of a new OBJECT", m.about(4), 1);
        Make.rule(m, 0, 0);
        Check.due("of a new RULE", m.about(4), 4);
    }

    /** 16 LISTS, each with a ROW of 1; RULES 0 .. 3 OVER 0 tell of X alone, by A, B, NEXT, ROW. */
    private static MemberScores eachField() {
        MemberScores m = Make.alike(16, LIST);
        int x = Make.x(m);
        for (int object = 0; object < 16; object++) {
            m.row(object, 1);
        }
        Make.rule(m, 0, Make.of(m, 3, x));
        Make.rule(m, 0, Make.of(m, 4, x));
        Make.rule(m, 0, Make.both(m, 14, Make.of(m, 5, x), x));
        Make.rule(m, 0, Make.both(m, 6, x, Make.number(m, 0)));
        m.score(0);
        return m;
    }

    private static int change(MemberScores m, int object, int field, int v) {
        if (field <= 1) {
            return m.set(object, field, v);
        }
        return field == 2 ? m.link(object, v) : m.item(object, 0, v);
    }

    private static void freshByEachFieldThatWasRead() {
        MemberScores m = eachField();
        for (int object = 0; object < 16; object++) {
            for (int field = 0; field <= 3; field++) {
                Check.due("changed", change(m, object, field, 1), 1);
                Check.due("one is FRESH by " + object + ", " + field, m.about(4), 1);
                int kept = m.about(5);
                m.mark(field, object, NONE);
                Check.due("it is that one, " + object + ", " + field, m.about(5), kept + 1);
            }
        }
    }

    private static void freshByThatFieldAlone() {
        for (int field = 0; field <= 3; field++) {
            MemberScores m = eachField();
            for (int object = 0; object < 16; object++) {
                for (int other = 0; other < 16; other++) {
                    Check.due("RULE " + field + " of " + object + " READ of " + other,
                        m.reads(field, object, NONE, other), object == other ? 1 << field : 0);
                }
            }
        }
    }

    private static void freshSinceItWasWorkedLast() {
        MemberScores m = Make.objects(THING);
        int x = Make.x(m);
        int a = Make.of(m, 3, x);
        Make.rule(m, 0, m.expression(15, a, Make.number(m, 7), Make.of(m, 4, x)));
        m.set(0, 1, 5);
        Check.due("B, by A 0", m.score(0), 5);
        m.set(0, 0, 1);
        Check.due("7, by A 1", m.score(0), 7);
        m.set(0, 1, 6);
        Check.due("B is READ no more", m.about(4), 0);
        m.set(0, 0, 0);
        Check.due("A is READ still", m.about(4), 1);
        Check.due("B, by A 0 again", m.score(0), 6);
    }

    private static void freshWhileOff() {
        MemberScores m = Make.objects(THING);
        Make.rule(m, 0, Make.of(m, 3, Make.x(m)));
        m.score(0);
        m.turn(0, false);
        m.set(0, 0, 9);
        Check.due("no CALL is ON", m.about(4), 0);
        m.score(0);
        Check.due("none is SETTLED when off", m.about(5), 1);
        m.turn(0, true);
        Check.due("what was changed while off", m.about(4), 1);
        Check.due("its SCORE", m.score(0), 9);
    }

    private static void freshAfterAFault() {
        MemberScores m = Make.objects(THING);
        int a = Make.of(m, 3, Make.x(m));
        Make.rule(m, 0, Make.both(m, 11, Make.number(m, 6), a));
        Check.due("ZERO", m.failed(3), 3);
        Check.due("it has its FAULT", m.about(4), 0);
        Check.due("asked again", m.failed(3), 3);
        Check.due("it was worked once", m.about(8), 1);
        m.set(0, 0, 2);
        Check.due("what it READ before the FAULT was changed", m.about(4), 1);
        Check.due("mended", m.score(0), 3);
        m.set(0, 0, 0);
        Check.due("a FAULT again", m.failed(3), 3);
        Check.due("it was worked anew", m.about(8), 2);
    }

    private static void freshIsNotWhatReadNothing() {
        MemberScores m = Make.objects(NODE, NODE);
        int x = Make.x(m);
        Make.rule(m, 4, Make.both(m, 14, x, Make.y(m)));
        Make.rule(m, 0, m.expression(16, x, 1, 0));
        Make.rule(m, 0, Make.number(m, 1));
        m.score(0);
        m.set(0, 0, 1);
        m.set(0, 1, 1);
        m.link(0, 1);
        m.object(LIST);
        m.row(2, 3);
        Check.due("those of the new OBJECT alone", m.about(4), 4 + 1 + 1);
    }

    // Terms: TO SETTLE: the FRESH CALLS of RULES that are ON, by RULES, then in their order, are worked.

    private static void settledByRulesThenInOrder() {
        MemberScores m = Make.alike(2, THING);
        int c = Make.count(m);
        Make.rule(m, 4, c);
        Make.rule(m, 0, c);
        Make.rule(m, 0, c);
        Make.rule(m, 3, c);
        m.turn(1, false);
        m.failed(0);
        int[][] want = {{0, 0, 1, 0}, {0, 1, 0, 1}, {2, 0, NONE, 2}, {2, 1, NONE, 3}, {3, 0, 1, 4}};
        for (int[] w : want) {
            Check.due("RULE " + w[0] + ", " + w[1] + " " + w[2], m.mark(w[0], w[1], w[2]), w[3]);
        }
        Check.due("off was not worked", m.about(6), 5);
        m.turn(1, true);
        m.failed(0);
        Check.due("ON later, worked later", m.mark(1, 0, NONE), 5);
    }

    private static void settledFreshOnesAlone() {
        MemberScores m = Make.alike(4, THING);
        int c = Make.count(m);
        int hundred = Make.number(m, 100);
        int a = Make.of(m, 3, Make.x(m));
        Make.rule(m, 0, Make.both(m, 8, Make.both(m, 10, a, hundred), c));
        m.score(0);
        m.set(2, 0, 1);
        m.set(1, 0, 1);
        m.score(0);
        int[] want = {0, 104, 105, 3};
        for (int object = 0; object < 4; object++) {
            Check.due("MARK of " + object, m.mark(0, object, NONE), want[object]);
        }
        Check.due("6 were worked", m.about(5), 6);
    }
}
