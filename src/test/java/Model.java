import java.util.ArrayList;
import java.util.List;

/**
 * The document once more, in the most direct Java: NODES are worked by recursion and faults are
 * exceptions. Only for comparison with FrameTalk, which may use neither.
 */
final class Model {
    private static final class Fault extends RuntimeException {
        private static final long serialVersionUID = 1L;
        final int kind;
        final int node;

        Fault(int kind, int node) {
            super(null, null, false, false);
            this.kind = kind;
            this.node = node;
        }
    }

    private static final class Spent extends RuntimeException {
        private static final long serialVersionUID = 1L;

        Spent() {
            super(null, null, false, false);
        }
    }

    private abstract static class Thing {
        int number;
    }

    private static final class Num extends Thing {
        long value;
    }

    private static class Cell extends Thing {
        Thing[] fields = new Thing[2];
    }

    private static final class Duo extends Cell {
    }

    private static final class Box extends Thing {
        Thing field;
    }

    private static final class Row extends Thing {
        Thing[] places;
        int use;
    }

    private static final class Held extends Thing {
        long value;
    }

    /** For each OP, which of its PARTS are told by great letters. */
    private static final String[] GREAT = {
        "", "", "b", "ab", "ab", "a", "a", "ac", "a", "a", "ac", "b", "abc", "ab", "a", "ac", "a", "a",
        "ab", "abc", "ab"
    };

    private final List<long[]> nodes = new ArrayList<>();
    private final Thing[] slots = new Thing[256];
    private Thing held;
    private Thing gave;
    private int made;
    private int placesLeft = 20000;
    private int everLeft = 50000;
    private int left;
    private int taken;
    private int kind;
    private int kindAt = -1;

    int lit(long v) {
        return add(0, v, 0, 0, 0);
    }

    int node(int op, int a, int b, int c) {
        return op < 1 || op > 20 ? -1 : add(op, 0, a, b, c);
    }

    int part(int node, int which, int child) {
        if (node < 0 || node >= nodes.size() || which < 0 || which > 2) {
            return -1;
        }
        long[] changed = nodes.get(node);
        changed[2 + which] = resolved((int) changed[0], which, child);
        return 0;
    }

    int run(int node, int steps) {
        if (steps < 0 || steps > 10000) {
            return -2;
        }
        gave = null;
        kind = 0;
        kindAt = -1;
        left = Math.min(steps, everLeft);
        taken = 0;
        int answer = 0;
        try {
            if (node < 0 || node >= nodes.size()) {
                throw new Fault(1, -1);
            }
            gave = work(node, 1);
        } catch (Fault fault) {
            kind = fault.kind;
            kindAt = fault.node;
            answer = 1 + kind;
        } catch (Spent spent) {
            answer = -1;
        }
        everLeft -= taken;
        return answer;
    }

    long value(int i) {
        Thing there = there(i);
        if (there instanceof Num) {
            return ((Num) there).value;
        }
        return there instanceof Held ? ((Held) there).value : 0;
    }

    int thing(int i, int what) {
        if (i < -1 || i > 255) {
            return -1;
        }
        Thing there = there(i);
        if (what == 0) {
            return kindOf(there);
        }
        if (there == null) {
            return -1;
        }
        return what == 1 ? there.number : what == 2 || what == 3 ? detail(there, what - 2) : -1;
    }

    int fault() {
        return kind;
    }

    int faultNode() {
        return kindAt;
    }

    int steps() {
        return taken;
    }

    void wipe() {
        nodes.clear();
        java.util.Arrays.fill(slots, null);
        held = null;
        gave = null;
    }

    private int add(int op, long v, int a, int b, int c) {
        if (nodes.size() == 4000) {
            return -1;
        }
        nodes.add(new long[] {op, v, resolved(op, 0, a), resolved(op, 1, b), resolved(op, 2, c)});
        return nodes.size() - 1;
    }

    private int resolved(int op, int which, int told) {
        boolean great = GREAT[op].indexOf("abc".charAt(which)) >= 0;
        return great && (told < 0 || told >= nodes.size()) ? -1 : told;
    }

    private Thing there(int i) {
        return i == -1 ? gave : i >= 0 && i < 256 ? slots[i] : null;
    }

    private static int kindOf(Thing thing) {
        return thing == null ? 0 : thing instanceof Num ? 1 : thing instanceof Duo ? 3
                : thing instanceof Cell ? 2 : thing instanceof Box ? 4 : thing instanceof Row ? 5 : 6;
    }

    private static int detail(Thing thing, int which) {
        if (thing instanceof Row) {
            Row row = (Row) thing;
            return row.places == null ? -1 : which == 0 ? row.places.length : row.use;
        }
        Thing field = thing instanceof Cell ? ((Cell) thing).fields[which]
                : thing instanceof Box && which == 0 ? ((Box) thing).field : null;
        return field == null ? -1 : field.number;
    }

    private <T extends Thing> T numbered(T thing) {
        thing.number = made++;
        return thing;
    }

    private Num num(long value) {
        Num num = numbered(new Num());
        num.value = value;
        return num;
    }

    private static <T extends Thing> T asked(Class<T> type, Thing thing, int node) {
        if (thing == null) {
            throw new Fault(1, node);
        }
        if (!type.isInstance(thing)) {
            throw new Fault(3, node);
        }
        return type.cast(thing);
    }

    private Thing workPart(int node, int which, int depth) {
        int part = (int) nodes.get(node)[2 + which];
        if (part == -1) {
            throw new Fault(1, node);
        }
        return work(part, depth + 1);
    }

    private Thing work(int node, int depth) {
        if (left == 0) {
            throw new Spent();
        }
        left--;
        taken++;
        if (depth == 201) {
            throw new Fault(7, node);
        }
        int op = (int) nodes.get(node)[0];
        if (op == 15) {
            return attempt(node, depth);
        }
        if (op == 19) {
            Num chosen = asked(Num.class, workPart(node, 0, depth), node);
            return workPart(node, chosen.value != 0 ? 1 : 2, depth);
        }
        if (op == 20) {
            Num times = asked(Num.class, workPart(node, 0, depth), node);
            Thing last = null;
            for (long i = 0; i < times.value; i++) {
                last = workPart(node, 1, depth);
            }
            return last;
        }
        Thing[] given = new Thing[3];
        for (int which = 0; which < 3; which++) {
            if (GREAT[op].indexOf("abc".charAt(which)) >= 0) {
                given[which] = workPart(node, which, depth);
            }
        }
        return done(node, op, given);
    }

    private Thing attempt(int node, int depth) {
        int takes = (int) nodes.get(node)[3];
        try {
            return workPart(node, 0, depth);
        } catch (Fault fault) {
            if (takes != 0 && takes != fault.kind) {
                throw fault;
            }
            slots[0] = num(fault.kind);
        }
        return workPart(node, 2, depth);
    }

    private Thing done(int node, int op, Thing[] given) {
        long[] told = nodes.get(node);
        int a = (int) told[2];
        int b = (int) told[3];
        switch (op) {
            case 0:
                return num(told[1]);
            case 1:
                return slots[slot(a, node)];
            case 2:
                return slots[slot(a, node)] = given[1];
            case 3:
            case 4:
                Cell made = numbered(op == 3 ? new Cell() : new Duo());
                made.fields = new Thing[] {given[0], given[1]};
                return made;
            case 5:
                Box box = numbered(new Box());
                box.field = given[0];
                return box;
            case 6:
                return asked(Cell.class, given[0], node).fields[b == 0 ? 0 : 1];
            case 7:
                return asked(Cell.class, given[0], node).fields[b == 0 ? 0 : 1] = given[2];
            case 8:
            case 9:
                return asked(Duo.class, given[0], node).fields[op - 8];
            case 10:
                return sent(node, asked(Box.class, given[0], node), b, given[2]);
            case 11:
                return row(node, a, asked(Num.class, given[1], node).value);
            case 12:
            case 13:
                return placed(node, op, given);
            case 14:
                Row row = asked(Row.class, given[0], node);
                if (row.places == null) {
                    throw new Fault(1, node);
                }
                return num(row.places.length);
            case 16:
                throw new Fault(held == null ? 1 : 7, node);
            case 17:
                long value = asked(Num.class, given[0], node).value;
                Held fault = numbered(new Held());
                fault.value = value;
                held = fault;
                return fault;
            default:
                return given[1];
        }
    }

    private static int slot(int slot, int node) {
        if (slot < 0 || slot > 255) {
            throw new Fault(2, node);
        }
        return slot;
    }

    private Thing sent(int node, Box box, int message, Thing with) {
        Thing was = box.field;
        if (message == 0) {
            return was;
        }
        if (message == 1) {
            box.field = with;
            return was;
        }
        if (message < 2 || message > 6) {
            return num(message == 7 && was == with ? 1 : 0);
        }
        long x = asked(Num.class, was, node).value;
        long y = asked(Num.class, with, node).value;
        if (message >= 5 && y == 0) {
            throw new Fault(6, node);
        }
        return num(message == 2 ? x + y : message == 3 ? x - y : message == 4 ? x * y
                : message == 5 ? x / y : x % y);
    }

    private Thing row(int node, int use, long value) {
        int count = (int) value;
        boolean without = use < 0 || use > 2;
        if (!without && count < 0) {
            throw new Fault(5, node);
        }
        if (!without && count > placesLeft) {
            throw new Fault(8, node);
        }
        Row row = numbered(new Row());
        if (!without) {
            placesLeft -= count;
            row.places = new Thing[count];
            row.use = use;
        }
        return row;
    }

    private Thing placed(int node, int op, Thing[] given) {
        Row row = asked(Row.class, given[0], node);
        int place = (int) asked(Num.class, given[1], node).value;
        if (row.places == null) {
            throw new Fault(1, node);
        }
        if (place < 0 || place >= row.places.length) {
            throw new Fault(2, node);
        }
        if (op == 13) {
            return row.places[place];
        }
        Thing put = given[2];
        boolean fits = put == null || row.use == 0 || row.use == 1 && put instanceof Cell
                || row.use == 2 && put instanceof Duo;
        if (!fits) {
            throw new Fault(4, node);
        }
        return row.places[place] = put;
    }
}
