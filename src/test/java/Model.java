import java.util.ArrayList;
import java.util.HashMap;
import java.util.List;
import java.util.Map;
import java.util.NoSuchElementException;

/**
 * The document once more, done in another way, to compare with: OBJECTS are Java objects, FAULTS are what the Java
 * machine throws, and a CALL is FRESH if a FIELD that it READ has another version than it had then.
 */
final class Model {
    private static final int NONE = -1, UNKNOWN = -101, OUTSIDE = -102, ROOM = -104;

    private static class Thing {
        int a, b, number;
        final int[] versions = new int[4];

        int sort() {
            return 0;
        }
    }

    private static class Node extends Thing {
        Thing next;

        @Override
        int sort() {
            return 1;
        }
    }

    private static final class Row extends Node {
        int[] ints;

        @Override
        int sort() {
            return 2;
        }
    }

    private interface Program {
        Object run(Call call);
    }

    private record Typed(Program program, boolean isObject, int size) {
        int number(Call call) {
            return (Integer) program.run(call);
        }
    }

    private static final class Scoring {
        int over, level, weight;
        boolean on = true;
        Typed program;
        final Map<Integer, Call> kept = new HashMap<>();
    }

    /** One working of a CALL. */
    private static final class Call {
        Thing x, y;
        Object outcome;
        final Map<Integer, Integer> versionsRead = new HashMap<>();
    }

    private final List<Thing> things = new ArrayList<>();
    private final List<Typed> programs = new ArrayList<>();
    private final List<Scoring> scorings = new ArrayList<>();
    private int kept, counted, faults;

    private static boolean within(int n, List<?> list) {
        return n >= 0 && n < list.size();
    }

    int object(int sort) {
        if (sort < 0 || sort > 2) {
            return OUTSIDE;
        }
        if (things.size() == 16) {
            return ROOM;
        }
        Thing made = sort == 0 ? new Thing() : sort == 1 ? new Node() : new Row();
        made.number = things.size();
        things.add(made);
        return made.number;
    }

    int set(int object, int field, int v) {
        if (!within(object, things)) {
            return UNKNOWN;
        }
        if (field != 0 && field != 1) {
            return OUTSIDE;
        }
        Thing t = things.get(object);
        int old = field == 0 ? t.a : t.b;
        if (field == 0) {
            t.a = v;
        } else {
            t.b = v;
        }
        t.versions[field] += old == v ? 0 : 1;
        return old == v ? 0 : 1;
    }

    int link(int object, int next) {
        if (!within(object, things) || next != NONE && !within(next, things)) {
            return UNKNOWN;
        }
        if (!(things.get(object) instanceof Node n)) {
            return OUTSIDE;
        }
        Thing other = next == NONE ? null : things.get(next);
        if (n.next == other) {
            return 0;
        }
        n.next = other;
        n.versions[2]++;
        return 1;
    }

    int row(int object, int n) {
        if (!within(object, things)) {
            return UNKNOWN;
        }
        if (!(things.get(object) instanceof Row r) || n < -1 || n > 8) {
            return OUTSIDE;
        }
        int old = r.ints == null ? NONE : r.ints.length;
        r.ints = n == NONE ? null : new int[n];
        r.versions[3]++;
        return old;
    }

    int item(int object, int i, int v) {
        if (!within(object, things)) {
            return UNKNOWN;
        }
        if (!(things.get(object) instanceof Row r) || r.ints == null || i < 0 || i >= r.ints.length) {
            return OUTSIDE;
        }
        if (r.ints[i] == v) {
            return 0;
        }
        r.ints[i] = v;
        r.versions[3]++;
        return 1;
    }

    /** By kind, what a, b, c have to be: O an OBJECT, I an int, S a SORT; then what it tells. */
    private static final String[] SHAPES = {">I", ">O", ">O", "O>I", "O>I", "O>O", "OI>I", "O>I", "II>I", "II>I",
        "II>I", "II>I", "II>I", "II>I", "OO>I", "III>I", "OS>I", ">I"};

    int expression(int kind, int a, int b, int c) {
        if (kind < 0 || kind > 17) {
            return OUTSIDE;
        }
        int[] given = {a, b, c};
        String shape = SHAPES[kind];
        int arrow = shape.indexOf('>');
        int size = 1;
        boolean outside = false;
        for (int i = 0; i < arrow; i++) {
            if (shape.charAt(i) == 'S') {
                outside |= given[i] < 0 || given[i] > 2;
            } else if (!within(given[i], programs)) {
                return UNKNOWN;
            } else {
                outside |= programs.get(given[i]).isObject() != (shape.charAt(i) == 'O');
                size += programs.get(given[i]).size();
            }
        }
        if (outside) {
            return OUTSIDE;
        }
        if (programs.size() == 80 || size > 60) {
            return ROOM;
        }
        Typed[] parts = new Typed[3];
        for (int i = 0; i < arrow; i++) {
            parts[i] = shape.charAt(i) == 'S' ? null : programs.get(given[i]);
        }
        programs.add(new Typed(program(kind, a, b, parts), shape.endsWith("O"), size));
        return programs.size() - 1;
    }

    private static void read(Call call, Thing t, int field) {
        call.versionsRead.put(t.number * 4 + field, t.versions[field]);
    }

    private Program program(int kind, int number, int sort, Typed[] p) {
        switch (kind) {
            case 0: return c -> number;
            case 1: return c -> c.x;
            case 2: return c -> c.y;
            case 3: return c -> {
                Thing t = (Thing) p[0].program().run(c);
                int told = t.a;
                read(c, t, 0);
                return told;
            };
            case 4: return c -> {
                Thing t = (Thing) p[0].program().run(c);
                int told = t.b;
                read(c, t, 1);
                return told;
            };
            case 5: return c -> {
                Node n = (Node) p[0].program().run(c);
                Thing told = n.next;
                read(c, n, 2);
                return told;
            };
            case 6: return c -> {
                Object o = p[0].program().run(c);
                int place = p[1].number(c);
                return ints(c, o)[place];
            };
            case 7: return c -> ints(c, p[0].program().run(c)).length;
            case 8: return c -> p[0].number(c) + p[1].number(c);
            case 9: return c -> p[0].number(c) - p[1].number(c);
            case 10: return c -> p[0].number(c) * p[1].number(c);
            case 11: return c -> p[0].number(c) / p[1].number(c);
            case 12: return c -> p[0].number(c) % p[1].number(c);
            case 13: return c -> p[0].number(c) < p[1].number(c) ? 1 : 0;
            case 14: return c -> p[0].program().run(c) == p[1].program().run(c) ? 1 : 0;
            case 15: return c -> p[0].number(c) != 0 ? p[1].number(c) : p[2].number(c);
            case 16: return c -> p[0].program().run(c) instanceof Thing t && t.sort() >= sort ? 1 : 0;
            default: return c -> counted++ % 8;
        }
    }

    private static int[] ints(Call call, Object o) {
        Row r = (Row) o;
        int[] told = r.ints;
        read(call, r, 3);
        return told;
    }

    int rule(int over, int level, int weight, int expression) {
        if (!within(expression, programs)) {
            return UNKNOWN;
        }
        if (over < 0 || over > 4 || level < 0 || level > 2 || Math.abs((long) weight) > 1000
                || programs.get(expression).isObject()) {
            return OUTSIDE;
        }
        if (scorings.size() == 8) {
            return ROOM;
        }
        Scoring s = new Scoring();
        s.over = over;
        s.level = level;
        s.weight = weight;
        s.program = programs.get(expression);
        scorings.add(s);
        return scorings.size() - 1;
    }

    int turn(int rule, boolean on) {
        if (!within(rule, scorings)) {
            return UNKNOWN;
        }
        boolean before = scorings.get(rule).on;
        scorings.get(rule).on = on;
        return before != on ? 1 : 0;
    }

    /** The CALLS of a RULE in their order, as X * 100 + Y, Y 99 for none. */
    private List<Integer> calls(Scoring s) {
        List<Integer> calls = new ArrayList<>();
        for (Thing x : things) {
            if (s.over <= 2 && x.sort() >= s.over) {
                calls.add(x.number * 100 + 99);
            }
            for (Thing y : things) {
                if (s.over == 3 && x.number < y.number || s.over == 4 && x != y) {
                    calls.add(x.number * 100 + y.number);
                }
            }
        }
        return calls;
    }

    private Call work(Scoring s, int x, int y) {
        Call call = new Call();
        if (faults >= 2000) {
            call.outcome = "4";
            return call;
        }
        call.x = things.get(x);
        call.y = y == 99 ? null : things.get(y);
        try {
            call.outcome = s.program.number(call);
        } catch (NullPointerException e) {
            call.outcome = "0";
        } catch (ClassCastException e) {
            call.outcome = "1";
        } catch (ArrayIndexOutOfBoundsException e) {
            call.outcome = "2";
        } catch (ArithmeticException e) {
            call.outcome = "3";
        }
        faults += call.outcome instanceof String ? 1 : 0;
        return call;
    }

    private boolean isFresh(Scoring s, int key) {
        Call call = s.kept.get(key);
        if (call == null) {
            return true;
        }
        for (Map.Entry<Integer, Integer> e : call.versionsRead.entrySet()) {
            if (things.get(e.getKey() / 4).versions[e.getKey() % 4] != e.getValue()) {
                return true;
            }
        }
        return false;
    }

    private Call settled(Scoring s, int key) {
        if (isFresh(s, key)) {
            s.kept.put(key, work(s, key / 100, key % 100));
            kept++;
        }
        return s.kept.get(key);
    }

    private List<int[]> settle() {
        List<int[]> failed = new ArrayList<>();
        for (int i = 0; i < scorings.size(); i++) {
            Scoring s = scorings.get(i);
            for (int key : s.on ? calls(s) : new ArrayList<Integer>()) {
                if (settled(s, key).outcome instanceof String fault) {
                    failed.add(new int[] {i, key / 100, key % 100 == 99 ? NONE : key % 100, Integer.parseInt(fault)});
                }
            }
        }
        return failed;
    }

    long score(int level) {
        if (level < 0 || level > 2) {
            throw new IllegalArgumentException();
        }
        if (!settle().isEmpty()) {
            throw new IllegalStateException();
        }
        long sum = 0;
        for (Scoring s : scorings) {
            for (int key : s.on && s.level == level ? calls(s) : new ArrayList<Integer>()) {
                sum += (long) s.weight * (Integer) s.kept.get(key).outcome;
            }
        }
        return sum;
    }

    int failed(int what) {
        if (what < 0 || what > 3) {
            return OUTSIDE;
        }
        List<int[]> failed = settle();
        return failed.isEmpty() ? NONE : failed.get(0)[what];
    }

    long full(int level) {
        if (level < 0 || level > 2) {
            throw new IllegalArgumentException();
        }
        long sum = 0;
        for (Scoring s : scorings) {
            for (int key : s.on ? calls(s) : new ArrayList<Integer>()) {
                Object outcome = work(s, key / 100, key % 100).outcome;
                if (outcome instanceof String) {
                    throw new IllegalStateException();
                }
                sum += s.level == level ? (long) s.weight * (Integer) outcome : 0;
            }
        }
        return sum;
    }

    private boolean isCall(int rule, int x, int y) {
        return within(rule, scorings) && within(x, things) && (y == NONE || within(y, things))
            && calls(scorings.get(rule)).contains(x * 100 + (y == NONE ? 99 : y));
    }

    int mark(int rule, int x, int y) {
        if (!isCall(rule, x, y)) {
            throw new NoSuchElementException();
        }
        Object outcome = settled(scorings.get(rule), x * 100 + (y == NONE ? 99 : y)).outcome;
        if (outcome instanceof Integer mark) {
            return mark;
        }
        switch ((String) outcome) {
            case "0": throw new NullPointerException();
            case "1": throw new ClassCastException();
            case "2": throw new ArrayIndexOutOfBoundsException();
            case "3": throw new ArithmeticException();
            default: throw new IllegalStateException();
        }
    }

    int reads(int rule, int x, int y, int object) {
        if (!isCall(rule, x, y) || !within(object, things)) {
            return UNKNOWN;
        }
        Call call = scorings.get(rule).kept.get(x * 100 + (y == NONE ? 99 : y));
        int bits = 0;
        for (int field = 0; field < 4; field++) {
            bits += call != null && call.versionsRead.containsKey(object * 4 + field) ? 1 << field : 0;
        }
        return bits;
    }

    int unlike(int rule) {
        if (!within(rule, scorings)) {
            return UNKNOWN;
        }
        int unlike = 0;
        Scoring s = scorings.get(rule);
        for (int key : calls(s)) {
            Object first = work(s, key / 100, key % 100).outcome;
            unlike += first.equals(work(s, key / 100, key % 100).outcome) ? 0 : 1;
        }
        return unlike;
    }

    int uneven(int rule) {
        if (!within(rule, scorings)) {
            return UNKNOWN;
        }
        Scoring s = scorings.get(rule);
        if (s.over != 3) {
            return OUTSIDE;
        }
        int uneven = 0;
        for (int key : calls(s)) {
            Object first = work(s, key / 100, key % 100).outcome;
            uneven += first.equals(work(s, key % 100, key / 100).outcome) ? 0 : 1;
        }
        return uneven;
    }

    private int callsOn(boolean freshAlone) {
        int number = 0;
        for (Scoring s : scorings) {
            for (int key : s.on ? calls(s) : new ArrayList<Integer>()) {
                number += !freshAlone || isFresh(s, key) ? 1 : 0;
            }
        }
        return number;
    }

    int about(int what) {
        int fields = 0;
        for (Thing t : things) {
            fields += t instanceof Row ? 4 : t instanceof Node ? 3 : 2;
        }
        int[] told = {things.size(), programs.size(), scorings.size(), callsOn(false), callsOn(true), kept, counted,
            fields, faults};
        return what < 0 || what > 8 ? OUTSIDE : told[what];
    }
}
