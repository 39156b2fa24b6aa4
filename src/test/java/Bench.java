/** A new object with a NODE for each kind of THING, and what several tests ask of it. */
class Bench {
    /** The PARTS of each OP that the document tells by great letters. */
    static final String[] GREAT = {
        "", "", "B", "AB", "AB", "A", "A", "AC", "A", "A", "AC",
        "B", "ABC", "AB", "A", "AC", "A", "A", "AB", "ABC", "AB"
    };

    final Check check = new Check();
    FrameTalk x;
    /** Gives nothing: SLOT 99 is used by no test. */
    int none;
    int zero;
    int one;
    int two;
    int cell;
    int duo;
    int box;
    int row;
    /** A ROW without any PLACES. */
    int bare;
    int faultThing;
    /** Is a fault 2. */
    int bad;

    void fresh() {
        x = new FrameTalk();
        none = x.node(Check.GET, 99, 0, 0);
        zero = x.lit(0);
        one = x.lit(1);
        two = x.lit(2);
        cell = x.node(Check.CELL, one, two, 0);
        duo = x.node(Check.DUO, one, two, 0);
        box = x.node(Check.BOX, two, 0, 0);
        row = x.node(Check.ROW, 0, two, 0);
        bare = x.node(Check.ROW, 3, two, 0);
        faultThing = x.node(Check.HOLD, two, 0, 0);
        bad = x.node(Check.GET, 256, 0, 0);
    }

    /** Puts what a NODE gives into a SLOT; the NODE that gives that same THING from there. */
    int keep(int slot, int node) {
        x.run(x.node(Check.SET, slot, node, 0), Check.PLENTY);
        return x.node(Check.GET, slot, 0, 0);
    }

    void dueFaultHere(String what, int node, int kind) {
        check.dueFault(what, x, node, kind, node);
    }

    /** Runs a NODE that is to end so, and to take so many STEPS. */
    void dueRun(String what, int node, int steps, int answer, int taken) {
        check.due(what + " (run)", x.run(node, steps), answer);
        check.due(what + " (steps)", x.steps(), taken);
    }

    /** The number of a NUM that is made now; it shows how many THINGS were made before. */
    int nextNumber() {
        x.run(zero, 1);
        return x.thing(-1, 1);
    }

    /** A fault of this kind at that NODE, by which no THING is made but those of its PARTS. */
    void dueRefused(String what, int node, int kind, int madeByParts) {
        int number = nextNumber();
        dueFaultHere(what, node, kind);
        check.due(what + " (THINGS made)", nextNumber() - number - 1, madeByParts);
    }

    /** Puts a CELL, a DUO, a BOX and a ROW into SLOTS, so that one STEP gives each of them. */
    void freshWithLeaves() {
        fresh();
        cell = keep(1, cell);
        duo = keep(2, duo);
        box = keep(3, box);
        row = keep(4, row);
    }

    /** PARTS with which the OP (not RAISE) is no fault, each worked in one STEP. */
    int[] fitting(int op) {
        switch (op) {
            case Check.GET:
                return new int[] {5, -1, -1};
            case Check.SET:
                return new int[] {5, one, -1};
            case Check.FIELD:
            case Check.STORE:
                return new int[] {cell, 0, one};
            case Check.LEFT:
            case Check.RIGHT:
                return new int[] {duo, -1, -1};
            case Check.SEND:
                return new int[] {box, 2, one};
            case Check.ROW:
                return new int[] {0, two, -1};
            case Check.PUT:
            case Check.AT:
            case Check.SIZE:
                return new int[] {row, zero, one};
            case Check.TRY:
                return new int[] {one, 2, two};
            default:
                return new int[] {one, two, zero};
        }
    }

    int nodeOf(int op, int[] parts) {
        return x.node(op, parts[0], parts[1], parts[2]);
    }

    /** PARTS with which this one of them is worked, behind those to its left. */
    int[] reaching(int op, int which) {
        int[] parts = fitting(op);
        if (which == 2 && op == Check.IF) {
            parts[0] = zero;
        } else if (which == 2 && op == Check.TRY) {
            parts[0] = bad;
        }
        return parts;
    }
}
