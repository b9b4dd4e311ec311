import java.util.ArrayList;
import java.util.Arrays;
import java.util.NoSuchElementException;

/** Scores by rules that are programs over objects; see README.md. */
public final class MemberScores {
    public static final int NONE = -1, UNKNOWN = -101, OUTSIDE = -102, ROOM = -104;

    private static final int THING = 0, NODE = 1, LIST = 2;
    private static final int FIELD_A = 0, FIELD_B = 1, FIELD_NEXT = 2, FIELD_ROW = 3;
    private static final int FIELD_BITS = 4, FIELD_MASK = 15;
    private static final int EMPTY = 0, CAST = 1, INDEX = 2, ZERO = 3, WORN = 4;
    private static final int PAIRS = 3, PAIRS_BOTH_WAYS = 4;

    private static final int MEMBERS_MOST = 16, ROW_MOST = 8, EXPRESSIONS_MOST = 80, SIZE_MOST = 60;
    private static final int RULES_MOST = 8, LEVEL_LAST = 2, WEIGHT_MOST = 1000, FAULTS_MOST = 2000;

    private static final int NUMBER = 0, X = 1, Y = 2, A = 3, B = 4, NEXT = 5, PLACE = 6, LENGTH = 7;
    private static final int PLUS = 8, MINUS = 9, TIMES = 10, DIVIDE = 11, REST = 12, BELOW = 13;
    private static final int SAME = 14, CHOICE = 15, IS = 16, COUNT = 17;

    /** How many of a, b, c are EXPRESSIONS, by kind. */
    private static final int[] PARTS = {0, 0, 0, 1, 1, 1, 2, 1, 2, 2, 2, 2, 2, 2, 2, 3, 1, 0};

    private final Machine machine;
    private final ArrayList<Rule> rules;
    private int keptCount;

    public MemberScores() {
        machine = new Machine();
        rules = new ArrayList<Rule>();
    }

    public int object(int sort) {
        if (!isSort(sort)) {
            return OUTSIDE;
        }
        int number = machine.members.size();
        if (number >= MEMBERS_MOST) {
            return ROOM;
        }
        machine.members.add(new Member(sort));
        return number;
    }

    public int set(int object, int field, int v) {
        if (!isMember(object)) {
            return UNKNOWN;
        }
        if (field != FIELD_A && field != FIELD_B) {
            return OUTSIDE;
        }
        Member member = machine.members.get(object);
        int old = field == FIELD_A ? member.a : member.b;
        if (old == v) {
            return 0;
        }
        if (field == FIELD_A) {
            member.a = v;
        } else {
            member.b = v;
        }
        freshen(object, field);
        return 1;
    }

    public int link(int object, int next) {
        if (!isMember(object) || next != NONE && !isMember(next)) {
            return UNKNOWN;
        }
        Member member = machine.members.get(object);
        if (member.sort < NODE) {
            return OUTSIDE;
        }
        if (member.next == next) {
            return 0;
        }
        member.next = next;
        freshen(object, FIELD_NEXT);
        return 1;
    }

    public int row(int object, int n) {
        if (!isMember(object)) {
            return UNKNOWN;
        }
        Member member = machine.members.get(object);
        if (member.sort < LIST || n < NONE || n > ROW_MOST) {
            return OUTSIDE;
        }
        int old = member.length;
        member.length = n;
        Arrays.fill(member.cells, 0);
        freshen(object, FIELD_ROW);
        return old;
    }

    public int item(int object, int i, int v) {
        if (!isMember(object)) {
            return UNKNOWN;
        }
        Member member = machine.members.get(object);
        // a ROW that is not there has length NONE, so that no place is in it
        if (member.sort < LIST || i < 0 || i >= member.length) {
            return OUTSIDE;
        }
        if (member.cells[i] == v) {
            return 0;
        }
        member.cells[i] = v;
        freshen(object, FIELD_ROW);
        return 1;
    }

    public int expression(int kind, int a, int b, int c) {
        if (kind < NUMBER || kind > COUNT) {
            return OUTSIDE;
        }
        int parts = PARTS[kind];
        if (parts > 0 && !isExpression(a) || parts > 1 && !isExpression(b) || parts > 2 && !isExpression(c)) {
            return UNKNOWN;
        }
        if (!partsFit(kind, a, b, c)) {
            return OUTSIDE;
        }
        int size = 1 + (parts > 0 ? sizeOf(a) : 0) + (parts > 1 ? sizeOf(b) : 0) + (parts > 2 ? sizeOf(c) : 0);
        int number = machine.expressions.size();
        if (number >= EXPRESSIONS_MOST || size > SIZE_MOST) {
            return ROOM;
        }
        machine.expressions.add(new Expression(kind, a, b, c, size));
        return number;
    }

    public int rule(int over, int level, int weight, int expression) {
        if (!isExpression(expression)) {
            return UNKNOWN;
        }
        if (over < 0 || over > PAIRS_BOTH_WAYS || !isLevel(level)
                || weight < -WEIGHT_MOST || weight > WEIGHT_MOST || tellsObject(expression)) {
            return OUTSIDE;
        }
        int number = rules.size();
        if (number >= RULES_MOST) {
            return ROOM;
        }
        rules.add(new Rule(over, level, weight, expression));
        return number;
    }

    public int turn(int rule, boolean on) {
        if (!isRule(rule)) {
            return UNKNOWN;
        }
        Rule turned = rules.get(rule);
        if (turned.on == on) {
            return 0;
        }
        turned.on = on;
        return 1;
    }

    public long score(int level) throws IllegalArgumentException, IllegalStateException {
        if (!isLevel(level)) {
            throw new IllegalArgumentException();
        }
        settle();
        if (firstFailed(0) != NONE) {
            throw new IllegalStateException();
        }
        long total = 0;
        for (int i = 0; i < rules.size(); i++) {
            Rule rule = rules.get(i);
            if (rule.on && rule.level == level) {
                total += keptTotal(rule);
            }
        }
        return total;
    }

    public int failed(int what) {
        if (what < 0 || what > 3) {
            return OUTSIDE;
        }
        settle();
        return firstFailed(what);
    }

    public long full(int level) throws IllegalArgumentException, IllegalStateException {
        if (!isLevel(level)) {
            throw new IllegalArgumentException();
        }
        long total = 0;
        for (int i = 0; i < rules.size(); i++) {
            Rule rule = rules.get(i);
            if (rule.on) {
                long part = totalAnew(rule);
                if (machine.fault != NONE) {
                    throw new IllegalStateException();
                }
                total += rule.level == level ? part : 0;
            }
        }
        return total;
    }

    public int mark(int rule, int x, int y) throws NoSuchElementException, NullPointerException, ClassCastException,
            ArrayIndexOutOfBoundsException, ArithmeticException, IllegalStateException {
        if (!isRule(rule) || !isCall(rules.get(rule), x, y)) {
            throw new NoSuchElementException();
        }
        Rule asked = rules.get(rule);
        int slot = asked.slotOf(x, y);
        if (!asked.worked[slot]) {
            workAndKeep(asked, slot);
        }
        switch (asked.faults[slot]) {
            // rule 6 of LANGUAGE.md lists others, but has a call throw exactly what the document says
            case EMPTY:
                throw new NullPointerException();
            case CAST:
                throw new ClassCastException();
            case INDEX:
                throw new ArrayIndexOutOfBoundsException();
            case ZERO:
                throw new ArithmeticException();
            case WORN:
                throw new IllegalStateException();
            default:
                return asked.marks[slot];
        }
    }

    public int reads(int rule, int x, int y, int object) {
        if (!isRule(rule) || !isMember(object) || !isCall(rules.get(rule), x, y)) {
            return UNKNOWN;
        }
        Rule asked = rules.get(rule);
        return (int) (asked.reads[asked.slotOf(x, y)] >>> object * FIELD_BITS) & FIELD_MASK;
    }

    public int unlike(int rule) {
        if (!isRule(rule)) {
            return UNKNOWN;
        }
        return countUnlike(rules.get(rule), false);
    }

    public int uneven(int rule) {
        if (!isRule(rule)) {
            return UNKNOWN;
        }
        Rule asked = rules.get(rule);
        if (asked.over != PAIRS) {
            return OUTSIDE;
        }
        return countUnlike(asked, true);
    }

    public int about(int what) {
        switch (what) {
            case 0:
                return machine.members.size();
            case 1:
                return machine.expressions.size();
            case 2:
                return rules.size();
            case 3:
                return callsOn(false);
            case 4:
                return callsOn(true);
            case 5:
                return keptCount;
            case 6:
                return machine.countCount;
            case 7:
                return fieldCount();
            case 8:
                return machine.faultCount;
            default:
                return OUTSIDE;
        }
    }

    private static boolean isSort(int sort) {
        return sort >= THING && sort <= LIST;
    }

    private static boolean isLevel(int level) {
        return level >= 0 && level <= LEVEL_LAST;
    }

    private boolean isMember(int number) {
        return number >= 0 && number < machine.members.size();
    }

    private boolean isExpression(int number) {
        return number >= 0 && number < machine.expressions.size();
    }

    private boolean isRule(int number) {
        return number >= 0 && number < rules.size();
    }

    private boolean isCall(Rule rule, int x, int y) {
        if (!isMember(x)) {
            return false;
        }
        if (!rule.isOverPairs()) {
            return y == NONE && machine.members.get(x).sort >= rule.over;
        }
        if (!isMember(y)) {
            return false;
        }
        return rule.over == PAIRS ? x < y : x != y;
    }

    private int sizeOf(int expression) {
        return machine.expressions.get(expression).size;
    }

    private boolean tellsObject(int expression) {
        int kind = machine.expressions.get(expression).kind;
        return kind == X || kind == Y || kind == NEXT;
    }

    private boolean partsFit(int kind, int a, int b, int c) {
        int parts = PARTS[kind];
        boolean objectA = kind >= A && kind <= LENGTH || kind == SAME || kind == IS;
        boolean objectB = kind == SAME;
        if (parts > 0 && tellsObject(a) != objectA || parts > 1 && tellsObject(b) != objectB) {
            return false;
        }
        if (parts > 2 && tellsObject(c)) {
            return false;
        }
        return kind != IS || isSort(b);
    }

    private void freshen(int object, int field) {
        long bit = readBit(object, field);
        for (int i = 0; i < rules.size(); i++) {
            rules.get(i).freshen(bit);
        }
    }

    /** 16 OBJECTS of 4 FIELDS are just the 64 bits of a long. */
    private static long readBit(int object, int field) {
        return 1L << object * FIELD_BITS + field;
    }

    private int slotsInUse(Rule rule) {
        int members = machine.members.size();
        return rule.isOverPairs() ? members * MEMBERS_MOST : members;
    }

    private boolean isCallAt(Rule rule, int slot) {
        return isCall(rule, rule.xOf(slot), rule.yOf(slot));
    }

    private void settle() {
        for (int i = 0; i < rules.size(); i++) {
            Rule rule = rules.get(i);
            int end = rule.on ? slotsInUse(rule) : 0;
            for (int slot = 0; slot < end; slot++) {
                if (!rule.worked[slot] && isCallAt(rule, slot)) {
                    workAndKeep(rule, slot);
                }
            }
        }
    }

    private void workAndKeep(Rule rule, int slot) {
        machine.work(rule.expression, rule.xOf(slot), rule.yOf(slot));
        rule.worked[slot] = true;
        rule.marks[slot] = machine.told;
        rule.faults[slot] = machine.fault;
        rule.reads[slot] = machine.looked;
        keptCount++;
    }

    /** What is asked of the first CALL that has a FAULT, when all is settled; NONE if none has one. */
    private int firstFailed(int what) {
        for (int i = 0; i < rules.size(); i++) {
            Rule rule = rules.get(i);
            int end = rule.on ? slotsInUse(rule) : 0;
            for (int slot = 0; slot < end; slot++) {
                if (isCallAt(rule, slot) && rule.faults[slot] != NONE) {
                    return what == 0 ? i : rule.tell(slot, what);
                }
            }
        }
        return NONE;
    }

    private long keptTotal(Rule rule) {
        long total = 0;
        int end = slotsInUse(rule);
        for (int slot = 0; slot < end; slot++) {
            if (isCallAt(rule, slot)) {
                total += (long) rule.weight * rule.marks[slot];
            }
        }
        return total;
    }

    /** Stops at the first FAULT, which the machine has then. */
    private long totalAnew(Rule rule) {
        machine.fault = NONE;
        long total = 0;
        int end = slotsInUse(rule);
        for (int slot = 0; slot < end && machine.fault == NONE; slot++) {
            if (isCallAt(rule, slot)) {
                machine.work(rule.expression, rule.xOf(slot), rule.yOf(slot));
                total += (long) rule.weight * machine.told;
            }
        }
        return total;
    }

    private int countUnlike(Rule rule, boolean turned) {
        int unlike = 0;
        int end = slotsInUse(rule);
        for (int slot = 0; slot < end; slot++) {
            if (isCallAt(rule, slot) && tellUnlike(rule, rule.xOf(slot), rule.yOf(slot), turned)) {
                unlike++;
            }
        }
        return unlike;
    }

    private boolean tellUnlike(Rule rule, int x, int y, boolean turned) {
        machine.work(rule.expression, x, y);
        int told = machine.told;
        int fault = machine.fault;
        machine.work(rule.expression, turned ? y : x, turned ? x : y);
        return told != machine.told || fault != machine.fault;
    }

    private int callsOn(boolean freshOnly) {
        int calls = 0;
        for (int i = 0; i < rules.size(); i++) {
            Rule rule = rules.get(i);
            int end = rule.on ? slotsInUse(rule) : 0;
            for (int slot = 0; slot < end; slot++) {
                if (isCallAt(rule, slot) && !(freshOnly && rule.worked[slot])) {
                    calls++;
                }
            }
        }
        return calls;
    }

    private int fieldCount() {
        int fields = 0;
        for (int i = 0; i < machine.members.size(); i++) {
            fields += FIELD_NEXT + machine.members.get(i).sort;
        }
        return fields;
    }

    /** An OBJECT. Its ROW is made once, for the longest, and used again. */
    private static final class Member {
        final int sort;
        final int[] cells;
        int a, b, next, length;

        Member(int sort) {
            this.sort = sort;
            this.cells = new int[ROW_MOST];
            this.next = NONE;
            this.length = NONE;
        }
    }

    /** An EXPRESSION; its parts are numbers of earlier ones. */
    private static final class Expression {
        final int kind, a, b, c, size;

        Expression(int kind, int a, int b, int c, int size) {
            this.kind = kind;
            this.a = a;
            this.b = b;
            this.c = c;
            this.size = size;
        }
    }

    /** A RULE, and what is kept of its CALLS, in slots that stand in the order of the CALLS. */
    private static final class Rule {
        final int over, level, weight, expression;
        final boolean[] worked;
        final int[] marks, faults;
        final long[] reads;
        boolean on;

        Rule(int over, int level, int weight, int expression) {
            this.over = over;
            this.level = level;
            this.weight = weight;
            this.expression = expression;
            this.on = true;
            int slots = over < PAIRS ? MEMBERS_MOST : MEMBERS_MOST * MEMBERS_MOST;
            worked = new boolean[slots];
            marks = new int[slots];
            faults = new int[slots];
            Arrays.fill(faults, NONE);
            reads = new long[slots];
        }

        boolean isOverPairs() {
            return over >= PAIRS;
        }

        int slotOf(int x, int y) {
            return isOverPairs() ? x * MEMBERS_MOST + y : x;
        }

        int xOf(int slot) {
            return isOverPairs() ? slot / MEMBERS_MOST : slot;
        }

        int yOf(int slot) {
            return isOverPairs() ? slot % MEMBERS_MOST : NONE;
        }

        int tell(int slot, int what) {
            if (what == 3) {
                return faults[slot];
            }
            return what == 1 ? xOf(slot) : yOf(slot);
        }

        void freshen(long bit) {
            for (int slot = 0; slot < worked.length; slot++) {
                if ((reads[slot] & bit) != 0) {
                    worked[slot] = false;
                }
            }
        }
    }

    /** Works EXPRESSIONS over OBJECTS, one CALL at a time, and holds what the last one told. */
    private static final class Machine {
        final ArrayList<Member> members;
        final ArrayList<Expression> expressions;
        int countCount, faultCount;
        int told, fault;
        long looked;
        private int x, y;

        Machine() {
            members = new ArrayList<Member>();
            expressions = new ArrayList<Expression>();
            fault = NONE;
        }

        /** Told is 0 after a FAULT, so that two CALLS tell alike if told and fault are alike. */
        void work(int expression, int callX, int callY) {
            x = callX;
            y = callY;
            looked = 0;
            told = 0;
            fault = NONE;
            if (faultCount >= FAULTS_MOST) {
                fault = WORN;
                return;
            }
            int value = value(expression);
            if (fault == NONE) {
                told = value;
            } else {
                faultCount++;
            }
        }

        /**
         * The number names an EXPRESSION, and so do those of its parts: rule() and expression() refuse others. Goes at
         * most SIZE_MOST deep: expression() refuses a larger SIZE, and each level adds 1 to it.
         */
        private int value(int number) {
            Expression e = expressions.get(number);
            int parts = PARTS[e.kind];
            int a = parts > 0 ? value(e.a) : 0;
            if (fault != NONE) {
                return 0;
            }
            if (e.kind == CHOICE) {
                return value(a != 0 ? e.b : e.c);
            }
            int b = parts > 1 ? value(e.b) : 0;
            if (fault != NONE) {
                return 0;
            }
            if (e.kind == PLACE || e.kind == LENGTH) {
                return lookInRow(e.kind, a, b);
            }
            return e.kind >= A && e.kind <= NEXT ? look(e.kind, a) : reckon(e, a, b);
        }

        private boolean isThere(int object) {
            return object >= 0 && object < members.size();
        }

        private int look(int kind, int object) {
            if (!isThere(object)) {
                return end(EMPTY);
            }
            Member member = members.get(object);
            if (kind == A) {
                looked |= readBit(object, FIELD_A);
                return member.a;
            }
            if (kind == B) {
                looked |= readBit(object, FIELD_B);
                return member.b;
            }
            if (member.sort < NODE) {
                return end(CAST);
            }
            looked |= readBit(object, FIELD_NEXT);
            return member.next;
        }

        private int lookInRow(int kind, int object, int place) {
            if (!isThere(object)) {
                return end(EMPTY);
            }
            Member member = members.get(object);
            if (member.sort < LIST) {
                return end(CAST);
            }
            looked |= readBit(object, FIELD_ROW);
            if (member.length == NONE) {
                return end(EMPTY);
            }
            if (kind == LENGTH) {
                return member.length;
            }
            if (place < 0 || place >= member.length) {
                return end(INDEX);
            }
            return member.cells[place];
        }

        private int reckon(Expression e, int a, int b) {
            switch (e.kind) {
                case NUMBER:
                    return e.a;
                case X:
                    return x;
                case Y:
                    return y;
                case PLUS:
                    return a + b;
                case MINUS:
                    return a - b;
                case TIMES:
                    return a * b;
                case DIVIDE:
                    return b == 0 ? end(ZERO) : a / b;
                case REST:
                    return b == 0 ? end(ZERO) : a % b;
                case BELOW:
                    return a < b ? 1 : 0;
                case SAME:
                    return a == b ? 1 : 0;
                case IS:
                    return isThere(a) && members.get(a).sort >= e.b ? 1 : 0;
                default:
                    return nextCount();
            }
        }

        private int nextCount() {
            int before = countCount;
            countCount++;
            return before % 8;
        }

        private int end(int reason) {
            fault = reason;
            return 0;
        }
    }
}
