/** Promise 17 at its edges; the words of the document stand above the tests of them. */
public final class AboutEdgesTest {
    private static final int NONE = MemberScores.NONE, OUTSIDE = MemberScores.OUTSIDE;
    private static final int MIN = Make.MIN, MAX = Make.MAX;

    public static void main(String[] args) {
        outside();
        workedByNothing();
        numbersWhenFull();
        callsThatAreOn();
        freshOnesOfThoseThatAreOn();
        keptByEachCall();
        countWhetherKeptOrNot();
        fieldsOfEachSort();
        faultsWhetherKeptOrNot();
        Check.end();
    }

    // Promise 17: OUTSIDE.

    private static void outside() {
        for (int what : new int[] {-1, 9, 10, MIN, MAX}) {
            Check.due("about(" + what + ")", new MemberScores().about(what), OUTSIDE);
        }
        Check.due("the first", new MemberScores().about(0), 0);
        Check.due("the last", new MemberScores().about(8), 0);
    }

    private static void workedByNothing() {
        MemberScores m = Make.objects(0);
        Make.rule(m, 0, Make.both(m, 11, Make.count(m), Make.number(m, 0)));
        for (int what = -1; what <= 9; what++) {
            m.about(what);
        }
        Check.due("about works no CALL", m.about(6) + m.about(5) + m.about(8), 0);
        Check.due("FRESH still", m.about(4), 1);
    }

    // Promise 17: What = 0 OBJECTS, 1 EXPRESSIONS, 2 RULES.

    private static void numbersWhenFull() {
        MemberScores m = Make.alike(20, 1);
        for (int i = 0; i < 90; i++) {
            Make.number(m, i);
        }
        for (int i = 0; i < 10; i++) {
            Make.rule(m, 4, i);
        }
        Check.due("OBJECTS", m.about(0), 16);
        Check.due("EXPRESSIONS", m.about(1), 80);
        Check.due("RULES", m.about(2), 8);
        Check.due("CALLS", m.about(3), 1920);
        Check.due("FRESH ones", m.about(4), 1920);
        m.turn(7, false);
        Check.due("RULES, ON or not", m.about(2), 8);
    }

    // Promise 17: 3 CALLS of RULES that are ON, 4 those of these that are FRESH.

    private static void callsThatAreOn() {
        MemberScores m = Make.objects(0, 1, 2);
        int one = Make.number(m, 1);
        int[] calls = {3, 2, 1, 3, 6};
        int all = 0;
        for (int over = 0; over <= 4; over++) {
            Make.rule(m, over, one);
            all += calls[over];
            Check.due("with one OVER " + over, m.about(3), all);
        }
        for (int over = 4; over >= 0; over--) {
            m.turn(over, false);
            all -= calls[over];
            Check.due("without one OVER " + over, m.about(3), all);
        }
        m.turn(3, true);
        m.object(0);
        Check.due("pairs of one OBJECT more", m.about(3), 6);
    }

    private static void freshOnesOfThoseThatAreOn() {
        MemberScores m = Make.objects(0, 0, 0);
        int a = Make.of(m, 3, Make.x(m));
        Make.rule(m, 0, a);
        Make.rule(m, 0, a);
        m.turn(1, false);
        Check.due("of RULE 0 alone", m.about(4), 3);
        m.mark(0, 1, NONE);
        m.mark(1, 1, NONE);
        Check.due("without the one that was worked", m.about(4), 2);
        m.turn(1, true);
        Check.due("of both", m.about(4), 4);
        m.score(0);
        Check.due("none", m.about(4), 0);
        m.set(2, 0, 1);
        Check.due("those that READ it", m.about(4), 2);
        Check.due("CALLS, FRESH or not", m.about(3), 6);
    }

    // Promise 17: 5 how many CALLS were worked whose MARK or FAULT was kept (WORN ones, too).

    private static void keptByEachCall() {
        MemberScores m = Make.objects(0, 0);
        int a = Make.of(m, 3, Make.x(m));
        Make.rule(m, 3, Make.both(m, 11, Make.number(m, 1), a));
        m.unlike(0);
        m.uneven(0);
        Check.dueThrow("full", IllegalStateException.class, () -> m.full(0));
        Check.due("not by unlike, uneven, full", m.about(5), 0);
        m.failed(0);
        Check.due("by failed, a FAULT", m.about(5), 1);
        m.set(0, 0, 1);
        Check.due("a change is no working", m.about(5), 1);
        m.score(0);
        Check.due("by score, a MARK", m.about(5), 2);
        m.score(0);
        Check.due("not when it isn't FRESH", m.about(5), 2);
        m.set(0, 0, 2);
        m.mark(0, 0, 1);
        Check.due("by mark", m.about(5), 3);
        MemberScores worn = Make.failing();
        Make.fail(worn, 2000);
        int kept = worn.about(5);
        Check.dueThrow("WORN", IllegalStateException.class, () -> worn.mark(0, 15, 0));
        Check.due("by mark, WORN", worn.about(5), kept + 1);
    }

    // Promise 17: 6 how often COUNT was worked.

    private static void countWhetherKeptOrNot() {
        MemberScores m = Make.objects(0, 0);
        int c = Make.count(m);
        Make.rule(m, 3, Make.both(m, 8, c, Make.both(m, 8, c, c)));
        m.unlike(0);
        Check.due("by unlike", m.about(6), 6);
        m.uneven(0);
        Check.due("by uneven", m.about(6), 12);
        m.full(0);
        Check.due("by full", m.about(6), 15);
        m.score(0);
        Check.due("by score", m.about(6), 18);
        m.mark(0, 0, 1);
        Check.due("not by what is kept", m.about(6), 18);
        Make.rule(m, 0, Make.both(m, 11, c, Make.number(m, 0)));
        m.failed(0);
        Check.due("before a FAULT, too", m.about(6), 20);
    }

    // Promise 17: 7 how many FIELDS all OBJECTS have.

    private static void fieldsOfEachSort() {
        for (int sort = 0; sort <= 2; sort++) {
            MemberScores m = new MemberScores();
            for (int i = 1; i <= 16; i++) {
                m.object(sort);
                Check.due(i + " of SORT " + sort, m.about(7), i * (2 + sort));
            }
            m.row(0, 8);
            m.link(0, 1);
            Check.due("FIELDS are had, whatever is in them", m.about(7), 16 * (2 + sort));
        }
    }

    // Promise 17: 8 FAULTS in all (but WORN).

    private static void faultsWhetherKeptOrNot() {
        MemberScores m = Make.objects(0, 0);
        Make.rule(m, 3, Make.of(m, 3, Make.of(m, 5, Make.x(m))));
        m.unlike(0);
        Check.due("by unlike", m.about(8), 2);
        m.uneven(0);
        Check.due("by uneven", m.about(8), 4);
        Check.dueThrow("full", IllegalStateException.class, () -> m.full(0));
        Check.due("by full", m.about(8), 5);
        m.failed(0);
        Check.due("by failed", m.about(8), 6);
        Check.dueThrow("score", IllegalStateException.class, () -> m.score(0));
        Check.dueThrow("mark", ClassCastException.class, () -> m.mark(0, 0, 1));
        Check.due("not by what is kept", m.about(8), 6);
        MemberScores worn = Make.failing();
        Make.fail(worn, 2000);
        worn.unlike(0);
        worn.turn(0, true);
        worn.failed(0);
        Check.due("not by WORN", worn.about(8), 2000);
    }
}
