import java.util.NoSuchElementException;

/** REFUSALS, of several the first one: UNKNOWN, OUTSIDE, ROOM. What is refused changes nothing. */
public final class RefusalsTest {
    private static final int NONE = MemberScores.NONE, UNKNOWN = MemberScores.UNKNOWN;
    private static final int OUTSIDE = MemberScores.OUTSIDE, ROOM = MemberScores.ROOM;
    private static final int[] ODD = {-2, -1, 3, 5, 8, 9, 16, 80, Make.MIN, Make.MAX};

    private interface Call {
        long ask(MemberScores m);
    }

    private static String toldOfSome, toldOfFull;

    public static void main(String[] args) {
        toldOfSome = told(some());
        toldOfFull = told(full());
        refusedOfObjects();
        refusedOfRows();
        refusedOfExpressions();
        refusedOfRules();
        refusedOfAsking();
        refusedByRoom();
        refusedByExceptions();
        theFirstOfSeveral();
        Check.end();
    }

    /** A THING, a NODE and a LIST; RULES of MARKS, COUNT, a FAULT, pairs; some kept, some FRESH, one off. */
    private static MemberScores some() {
        MemberScores m = Make.objects(0, 1, 2);
        m.set(0, 0, 5);
        m.set(2, 1, -3);
        m.link(1, 2);
        m.link(2, 0);
        m.row(2, 4);
        m.item(2, 3, 9);
        int x = Make.x(m);
        int y = Make.y(m);
        int a = Make.of(m, 3, x);
        int c = Make.count(m);
        m.rule(0, 0, 3, a);
        m.rule(1, 1, -2, Make.of(m, 4, Make.of(m, 5, x)));
        m.rule(2, 2, 1, Make.both(m, 6, x, Make.number(m, 3)));
        m.rule(3, 0, 1, Make.both(m, 11, a, Make.of(m, 3, y)));
        m.rule(4, 1, 7, c);
        m.mark(4, 2, 0);
        m.turn(3, false);
        m.score(0);
        m.turn(1, false);
        m.set(2, 1, 4);
        m.link(2, NONE);
        return m;
    }

    /** The same with 16 OBJECTS, 80 EXPRESSIONS, 8 RULES. */
    private static MemberScores full() {
        MemberScores m = some();
        for (int i = 0; i < 13; i++) {
            m.object(i % 3);
        }
        for (int i = m.about(1); i < 80; i++) {
            Make.number(m, 1);
        }
        for (int i = 0; i < 3; i++) {
            m.rule(0, i, 1, 2);
        }
        return m;
    }

    private static String answer(Check.Call call) {
        try {
            return "" + call.ask();
        } catch (RuntimeException e) {
            return e.toString();
        }
    }

    private static void tellAbout(StringBuilder text, MemberScores m) {
        for (int what = 0; what <= 8; what++) {
            text.append(m.about(what)).append(' ');
        }
    }

    /** What tells of all that is held: first what works nothing, then what works, then what changes. */
    private static String told(MemberScores m) {
        StringBuilder text = new StringBuilder();
        tellAbout(text, m);
        for (int rule = 0; rule < m.about(2); rule++) {
            for (int x = 0; x <= 2; x++) {
                text.append(m.reads(rule, x, NONE, x)).append(' ').append(m.reads(rule, x, 2 - x, x)).append(' ');
            }
        }
        for (int rule = 0; rule < m.about(2); rule++) {
            int asked = rule;
            for (int x = 0; x <= 2; x++) {
                int first = x;
                text.append(answer(() -> m.mark(asked, first, NONE))).append(' ');
                text.append(answer(() -> m.mark(asked, first, 2 - first))).append(' ');
            }
            text.append(m.unlike(rule)).append(' ').append(m.uneven(rule)).append(' ');
        }
        for (int i = 0; i <= 2; i++) {
            int level = i;
            text.append(m.failed(i + 1)).append(' ').append(answer(() -> m.score(level))).append(' ');
            text.append(answer(() -> m.full(level))).append(' ');
        }
        for (int rule = 0; rule < m.about(2); rule++) {
            text.append(m.turn(rule, true)).append(' ');
        }
        for (int object = 0; object < m.about(0); object++) {
            text.append(m.set(object, 0, 5)).append(m.set(object, 1, 4)).append(m.link(object, NONE));
            text.append(m.item(object, 3, 9)).append(m.item(object, 0, 0)).append(m.row(object, 4)).append(' ');
        }
        text.append(m.object(0)).append(' ').append(m.expression(8, 2, 2, 0)).append(' ').append(m.rule(0, 0, 0, 2));
        tellAbout(text, m);
        return text.toString();
    }

    /** Refused of a new object each time, so that each has few calls. */
    private static void due(String name, MemberScores m, Call call, long want) {
        boolean isFull = m.about(0) == 16;
        Check.due(name, call.ask(m), want);
        Check.same("what is told after " + name, told(m), isFull ? toldOfFull : toldOfSome);
    }

    private static void dueBoth(String name, Call call, long want) {
        due(name, some(), call, want);
        due(name + ", full", full(), call, want);
    }

    /** Asked where there is no OBJECT (known 0), EXPRESSION (1), RULE (2) of that number. */
    private static void dueUnknown(String name, int odd, int known, Call call) {
        if (odd < 0 || odd >= some().about(known)) {
            due(name + " " + odd, some(), call, UNKNOWN);
        }
        if (odd < 0 || odd >= full().about(known)) {
            due(name + " " + odd + ", full", full(), call, UNKNOWN);
        }
    }

    private static void refusedOfObjects() {
        for (int odd : ODD) {
            dueBoth("object " + odd, m -> m.object(odd), OUTSIDE);
            dueUnknown("set of", odd, 0, m -> m.set(odd, 0, 77));
            dueBoth("set field " + odd, m -> m.set(2, odd, 77), OUTSIDE);
            dueUnknown("link of", odd, 0, m -> m.link(odd, 0));
            if (odd != NONE) {
                dueUnknown("link to", odd, 0, m -> m.link(2, odd));
            }
        }
        dueBoth("link of a THING", m -> m.link(0, 1), OUTSIDE);
        dueBoth("link of a THING to NONE", m -> m.link(0, NONE), OUTSIDE);
    }

    private static void refusedOfRows() {
        for (int odd : ODD) {
            dueUnknown("row of", odd, 0, m -> m.row(odd, 2));
            if (odd < NONE || odd > 8) {
                dueBoth("row of ints " + odd, m -> m.row(2, odd), OUTSIDE);
            }
            dueUnknown("item of", odd, 0, m -> m.item(odd, 0, 77));
            if (odd != 3) {
                dueBoth("item at " + odd, m -> m.item(2, odd, 77), OUTSIDE);
            }
        }
        dueBoth("row of a NODE", m -> m.row(1, 2), OUTSIDE);
        dueBoth("row of a THING", m -> m.row(0, NONE), OUTSIDE);
        dueBoth("item of a NODE", m -> m.item(1, 0, 77), OUTSIDE);
        dueBoth("item at the length", m -> m.item(2, 4, 77), OUTSIDE);
    }

    private static void refusedOfExpressions() {
        for (int odd : ODD) {
            dueUnknown("3 of", odd, 1, m -> m.expression(3, odd, 0, 0));
            dueUnknown("8 with", odd, 1, m -> m.expression(8, 2, odd, 0));
            dueUnknown("15 else", odd, 1, m -> m.expression(15, 2, 2, odd));
            dueBoth("16 of SORT " + odd, m -> m.expression(16, 0, odd, 0), OUTSIDE);
            if (odd < 0 || odd > 17) {
                dueBoth("kind " + odd, m -> m.expression(odd, 0, 0, 0), OUTSIDE);
            }
        }
        dueBoth("kind 18", m -> m.expression(18, 0, 0, 0), OUTSIDE);
        dueBoth("3 of an int", m -> m.expression(3, 2, 0, 0), OUTSIDE);
        dueBoth("8 with an OBJECT", m -> m.expression(8, 2, 1, 0), OUTSIDE);
    }

    private static void refusedOfRules() {
        for (int odd : ODD) {
            dueUnknown("rule of", odd, 1, m -> m.rule(0, 0, 0, odd));
            if (odd != 3) {
                dueBoth("OVER " + odd, m -> m.rule(odd, 0, 0, 2), OUTSIDE);
            }
            dueBoth("LEVEL " + odd, m -> m.rule(0, odd, 0, 2), OUTSIDE);
            dueUnknown("turn", odd, 2, m -> m.turn(odd, false));
            dueUnknown("turn on", odd, 2, m -> m.turn(odd, true));
        }
        dueBoth("WEIGHT 1001", m -> m.rule(0, 0, 1001, 2), OUTSIDE);
        dueBoth("WEIGHT -1001", m -> m.rule(0, 0, -1001, 2), OUTSIDE);
        dueBoth("rule of an OBJECT", m -> m.rule(0, 0, 0, 1), OUTSIDE);
    }

    private static void refusedOfAsking() {
        for (int odd : ODD) {
            dueUnknown("unlike", odd, 2, m -> m.unlike(odd));
            dueUnknown("uneven", odd, 2, m -> m.uneven(odd));
            dueUnknown("reads of RULE", odd, 2, m -> m.reads(odd, 0, NONE, 0));
            dueUnknown("reads of X", odd, 0, m -> m.reads(0, odd, NONE, 0));
            dueUnknown("reads for", odd, 0, m -> m.reads(0, 0, NONE, odd));
            if (odd != 3) {
                dueBoth("failed " + odd, m -> m.failed(odd), OUTSIDE);
            }
            if (odd < 0 || odd > 8) {
                dueBoth("about " + odd, m -> m.about(odd), OUTSIDE);
            }
        }
        dueBoth("failed 4", m -> m.failed(4), OUTSIDE);
        for (int rule : new int[] {0, 1, 2, 4}) {
            dueBoth("uneven of RULE " + rule, m -> m.uneven(rule), OUTSIDE);
        }
    }

    private static void refusedByRoom() {
        for (int sort = 0; sort <= 2; sort++) {
            int made = sort;
            due("object " + sort, full(), m -> m.object(made), ROOM);
        }
        due("expression 0", full(), m -> m.expression(0, 4, 0, 0), ROOM);
        due("expression 8", full(), m -> m.expression(8, 2, 2, 0), ROOM);
        for (int over = 0; over <= 4; over++) {
            int made = over;
            due("rule OVER " + over, full(), m -> m.rule(made, 0, 1000, 2), ROOM);
        }
    }

    private static void refusedByExceptions() {
        for (int odd : ODD) {
            MemberScores m = some();
            Check.dueThrow("score " + odd, IllegalArgumentException.class, () -> m.score(odd));
            Check.dueThrow("full " + odd, IllegalArgumentException.class, () -> m.full(odd));
            Check.dueThrow("mark of RULE " + odd, NoSuchElementException.class,
                () -> m.mark(odd == 3 ? 6 : odd, 0, NONE));
            Check.dueThrow("mark of X " + odd, NoSuchElementException.class, () -> m.mark(0, odd, NONE));
            Check.same("what is told after exceptions for " + odd, told(m), toldOfSome);
        }
    }

    private static void theFirstOfSeveral() {
        MemberScores m = full();
        Check.due("set: UNKNOWN, OUTSIDE", m.set(16, 2, 0), UNKNOWN);
        Check.due("link: UNKNOWN, OUTSIDE", m.link(0, 16), UNKNOWN);
        Check.due("row: UNKNOWN, OUTSIDE", m.row(16, 9), UNKNOWN);
        Check.due("item: UNKNOWN, OUTSIDE", m.item(16, 9, 0), UNKNOWN);
        Check.due("object: OUTSIDE, ROOM", m.object(3), OUTSIDE);
        Check.due("expression: UNKNOWN, OUTSIDE, ROOM", m.expression(8, 80, 0, 0), UNKNOWN);
        Check.due("expression: OUTSIDE, ROOM", m.expression(8, 2, 0, 0), OUTSIDE);
        Check.due("kind: OUTSIDE, ROOM", m.expression(18, 80, 80, 80), OUTSIDE);
        Check.due("rule: UNKNOWN, OUTSIDE, ROOM", m.rule(5, 3, 1001, 80), UNKNOWN);
        Check.due("rule: OUTSIDE, ROOM", m.rule(0, 0, 1001, 2), OUTSIDE);
        Check.due("uneven: UNKNOWN, OUTSIDE", m.uneven(8), UNKNOWN);
    }
}
