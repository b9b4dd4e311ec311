/** All promises: the same runs of 512 calls asked of the program and of the Model, by numbers from a fixed seed. */
public final class ModelTest {
    private static final int RUNS = 600, CALLS = 512;

    private final MemberScores program = new MemberScores();
    private final Model model = new Model();
    private final int run;
    /** In some runs nothing is asked that is refused, so that they come further. */
    private final int wrongOutOf;
    private final int[] kinds = new int[80];
    private int expressions, objects, rules, calls;
    private long state;
    private String asked = "";

    private ModelTest(int run) {
        this.run = run;
        this.state = run * 7919L + 17;
        this.wrongOutOf = run % 3 == 0 ? 6 : 40;
    }

    public static void main(String[] args) {
        for (int run = 0; run < RUNS && Check.wrong() == 0; run++) {
            ModelTest test = new ModelTest(run);
            for (int step = 0; step < CALLS && Check.wrong() == 0; step++) {
                test.step(step);
            }
        }
        Check.end();
    }

    private int below(int bound) {
        state = state * 6364136223846793005L + 1442695040888963407L;
        return (int) ((state >>> 33) % bound);
    }

    private int near(int known) {
        if (below(wrongOutOf) == 0) {
            int[] odd = {-1, -2, known, known + 1, 16, Integer.MAX_VALUE, Integer.MIN_VALUE};
            return odd[below(odd.length)];
        }
        return known == 0 ? 0 : below(known);
    }

    private int number() {
        int[] odd = {Integer.MAX_VALUE, Integer.MIN_VALUE, -1, 65536};
        return below(12) == 0 ? odd[below(odd.length)] : below(7) - 1;
    }

    private int place() {
        return below(wrongOutOf) == 0 ? number() : below(5);
    }

    private static String answer(Check.Call call) {
        try {
            return "" + call.ask();
        } catch (RuntimeException e) {
            return "throws." + e.getClass().getSimpleName() + (Check.isOfTheMachine(e) ? " of the machine" : "");
        }
    }

    private void same(String call, Check.Call one, Check.Call other) {
        // what is told after that many calls is free
        if (calls == CALLS) {
            return;
        }
        calls++;
        asked = call;
        String got = answer(one);
        String want = answer(other);
        Check.due("run " + run + ": " + asked + " " + got + " for " + want, got.equals(want) ? 1 : 0, 1);
    }

    private void step(int step) {
        int choice = step < 70 ? below(40) : below(100);
        if (choice < 6) {
            makeObject();
        } else if (choice < 30) {
            makeExpression();
        } else if (choice < 34) {
            makeRule();
        } else if (choice < 60) {
            change();
        } else {
            ask();
        }
        if (step % 16 == 15) {
            for (int what = 0; what <= 8; what++) {
                about(what);
            }
        }
    }

    private void makeObject() {
        int sort = below(wrongOutOf) == 0 ? number() : below(3);
        // most runs keep some way from the 16 objects, so that rules over pairs don't wear all out at once
        if (objects < 3 + run % 14) {
            same("object " + sort, () -> program.object(sort), () -> model.object(sort));
            objects = model.about(0);
        }
    }

    /** An expression that tells what is wanted, the later ones more often, or just any. */
    private int part(boolean object) {
        for (int tries = 0; tries < 20; tries++) {
            int e = expressions == 0 ? 0 : Math.max(below(expressions), below(expressions));
            boolean isObject = kinds[e] == 1 || kinds[e] == 2 || kinds[e] == 5;
            if (isObject == object) {
                return e;
            }
        }
        return near(expressions);
    }

    private void makeExpression() {
        int kind = below(wrongOutOf) == 0 ? below(24) - 3 : expressions < 6 ? below(3) : below(18);
        boolean object = kind >= 3 && kind <= 7 || kind == 14 || kind == 16;
        int a = kind == 0 ? number() : below(wrongOutOf) == 0 ? near(expressions) : part(object);
        int b = kind == 16 ? place() % 3 : below(wrongOutOf) == 0 ? near(expressions) : part(kind == 14);
        int c = below(wrongOutOf) == 0 ? near(expressions) : part(false);
        same("expression " + kind + " " + a + " " + b + " " + c,
            () -> program.expression(kind, a, b, c), () -> model.expression(kind, a, b, c));
        if (model.about(1) > expressions) {
            kinds[expressions] = kind;
            expressions++;
        }
    }

    private void makeRule() {
        int over = below(wrongOutOf) == 0 ? number() : below(5);
        int level = below(wrongOutOf) == 0 ? number() : below(3);
        int weight = below(wrongOutOf) == 0 ? 995 + below(12) : below(2001) - 1000;
        int e = below(wrongOutOf) == 0 ? near(expressions) : part(false);
        same("rule " + over + " " + level + " " + weight + " " + e,
            () -> program.rule(over, level, weight, e), () -> model.rule(over, level, weight, e));
        rules = model.about(2);
    }

    private void change() {
        int object = near(objects);
        int v = number();
        int i = place();
        switch (below(6)) {
            case 0:
            case 1:
                int field = below(wrongOutOf) == 0 ? i : below(2);
                same("set " + object + " " + field + " " + v,
                    () -> program.set(object, field, v), () -> model.set(object, field, v));
                break;
            case 2:
                int next = below(4) == 0 ? -1 : near(objects);
                same("link " + object + " " + next, () -> program.link(object, next), () -> model.link(object, next));
                break;
            case 3:
                int n = below(10) - 1 + (below(wrongOutOf) == 0 ? 9 : 0);
                same("row " + object + " " + n, () -> program.row(object, n), () -> model.row(object, n));
                break;
            case 4:
                same("item " + object + " " + i + " " + v,
                    () -> program.item(object, i, v), () -> model.item(object, i, v));
                break;
            default:
                int rule = near(rules);
                boolean on = below(3) == 0;
                same("turn " + rule + " " + on, () -> program.turn(rule, on), () -> model.turn(rule, on));
                break;
        }
    }

    private void ask() {
        int level = below(wrongOutOf) == 0 ? number() : below(3);
        int rule = near(rules);
        int x = near(objects);
        int y = below(2) == 0 ? -1 : near(objects);
        int object = below(3) == 0 ? y : x;
        switch (below(9)) {
            case 0:
                same("score " + level, () -> program.score(level), () -> model.score(level));
                break;
            case 1:
                int what = below(wrongOutOf) == 0 ? number() : below(4);
                same("failed " + what, () -> program.failed(what), () -> model.failed(what));
                break;
            case 2:
                same("full " + level, () -> program.full(level), () -> model.full(level));
                break;
            case 3:
            case 4:
                same("mark " + rule + " " + x + " " + y, () -> program.mark(rule, x, y), () -> model.mark(rule, x, y));
                break;
            case 5:
                same("reads " + rule + " " + x + " " + y + " " + object,
                    () -> program.reads(rule, x, y, object), () -> model.reads(rule, x, y, object));
                break;
            case 6:
                same("unlike " + rule, () -> program.unlike(rule), () -> model.unlike(rule));
                break;
            case 7:
                same("uneven " + rule, () -> program.uneven(rule), () -> model.uneven(rule));
                break;
            default:
                about(below(13) - 2);
                break;
        }
    }

    private void about(int what) {
        same("about " + what, () -> program.about(what), () -> model.about(what));
    }
}
