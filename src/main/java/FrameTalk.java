import java.util.ArrayList;

/**
 * A little language of nodes that work on things: numbers, cells, pairs, boxes, rows, faults.
 *
 * <p>The words in great letters (NODE, PART, THING, STEP ..) are those of the document.
 */
public final class FrameTalk {
    private static final int NONE = -1;
    private static final int WRONG_STEPS = -2;

    private final Program program;
    private final Machine machine;

    public FrameTalk() {
        machine = new Machine();
        program = machine.program;
    }

    public int lit(long v) {
        return program.addLiteral(v);
    }

    public int node(int op, int a, int b, int c) {
        if (op < Node.FIRST_OP || op > Node.LAST_OP) {
            return NONE;
        }
        return program.add(op, a, b, c);
    }

    public int part(int node, int which, int child) {
        Node changed = program.at(node);
        if (changed == null || which < Node.A || which > Node.C) {
            return NONE;
        }
        program.setPart(changed, which, child);
        return 0;
    }

    public int run(int node, int steps) {
        if (steps < 0 || steps > Machine.STEPS_A_RUN) {
            return WRONG_STEPS;
        }
        machine.begin(program.at(node), steps);
        for (int turn = 0; turn < Machine.MOST_TURNS && machine.isAtWork(); turn++) {
            machine.takeTurn();
        }
        return machine.end();
    }

    public long value(int i) {
        Thing there = machine.seenAt(i);
        return there != null && there.hasValue() ? there.value : 0L;
    }

    public int thing(int i, int what) {
        if (!machine.canSee(i)) {
            return NONE;
        }
        Thing there = machine.seenAt(i);
        if (what == 0) {
            return there == null ? 0 : there.kind;
        }
        return there == null ? NONE : there.tell(what);
    }

    public int fault() {
        return machine.faultKind;
    }

    public int faultNode() {
        return machine.faultAt;
    }

    public int steps() {
        return machine.stepsTaken;
    }

    public void wipe() {
        program.clear();
        machine.forget();
    }

    /** An OP with its PARTS. A PART that is worked is held as the number of a NODE, or NONE. */
    private static final class Node {
        static final int A = 0;
        static final int B = 1;
        static final int C = 2;

        static final int LIT = 0;
        static final int GET = 1;
        static final int SET = 2;
        static final int CELL = 3;
        static final int DUO = 4;
        static final int BOX = 5;
        static final int FIELD = 6;
        static final int STORE = 7;
        static final int LEFT = 8;
        static final int RIGHT = 9;
        static final int SEND = 10;
        static final int ROW = 11;
        static final int PUT = 12;
        static final int AT = 13;
        static final int SIZE = 14;
        static final int TRY = 15;
        static final int RAISE = 16;
        static final int HOLD = 17;
        static final int SEQ = 18;
        static final int IF = 19;
        static final int TIMES = 20;

        static final int FIRST_OP = GET;
        static final int LAST_OP = TIMES;

        final int number;
        final int op;
        final long literal;
        private int a = NONE;
        private int b = NONE;
        private int c = NONE;

        Node(int number, int op, long literal) {
            this.number = number;
            this.op = op;
            this.literal = literal;
        }

        int get(int which) {
            switch (which) {
                case A:
                    return a;
                case B:
                    return b;
                default:
                    return c;
            }
        }

        void set(int which, int told) {
            switch (which) {
                case A:
                    a = told;
                    break;
                case B:
                    b = told;
                    break;
                default:
                    c = told;
                    break;
            }
        }

        /** Whether the document tells this PART of the OP by a great letter. */
        boolean works(int which) {
            switch (op) {
                case BOX:
                case FIELD:
                case LEFT:
                case RIGHT:
                case SIZE:
                case RAISE:
                case HOLD:
                    return which == A;
                case SET:
                case ROW:
                    return which == B;
                case CELL:
                case DUO:
                case AT:
                case SEQ:
                case TIMES:
                    return which == A || which == B;
                case STORE:
                case SEND:
                case TRY:
                    return which == A || which == C;
                case PUT:
                case IF:
                    return true;
                default:
                    return false;
            }
        }
    }

    /** The NODES that there are now. */
    private static final class Program {
        private static final int MOST_NODES = 4000;

        private final ArrayList<Node> nodes = new ArrayList<Node>();

        Node at(int number) {
            return number >= 0 && number < nodes.size() ? nodes.get(number) : null;
        }

        int addLiteral(long literal) {
            if (nodes.size() >= MOST_NODES) {
                return NONE;
            }
            return append(new Node(nodes.size(), Node.LIT, literal));
        }

        int add(int op, int a, int b, int c) {
            if (nodes.size() >= MOST_NODES) {
                return NONE;
            }
            Node made = new Node(nodes.size(), op, 0L);
            // Ahead of append: a NODE that is only being made is none such yet.
            setPart(made, Node.A, a);
            setPart(made, Node.B, b);
            setPart(made, Node.C, c);
            return append(made);
        }

        /** Looked up now, so that a NODE made later under that number does not become the PART. */
        void setPart(Node node, int which, int told) {
            boolean missing = node.works(which) && at(told) == null;
            node.set(which, missing ? NONE : told);
        }

        void clear() {
            nodes.clear();
        }

        private int append(Node made) {
            nodes.add(made);
            return made.number;
        }
    }

    /** Any THING; its kind says which of its fields are in use. */
    private static final class Thing {
        static final int NUM = 1;
        static final int CELL = 2;
        static final int DUO = 3;
        static final int BOX = 4;
        static final int ROW = 5;
        static final int FAULT = 6;

        static final int FOR_ALL = 0;
        static final int FOR_CELLS = 1;
        static final int FOR_DUOS = 2;

        final int number;
        final int kind;
        long value;
        /** The first FIELD of a CELL, the only one of a BOX. */
        Thing first;
        Thing second;
        int use;
        /** Null in a ROW without any, which a ROW that was made with 0 PLACES is not. */
        Thing[] places;

        Thing(int number, int kind) {
            this.number = number;
            this.kind = kind;
        }

        boolean isA(int asked) {
            return kind == asked || (asked == CELL && kind == DUO);
        }

        boolean hasValue() {
            return kind == NUM || kind == FAULT;
        }

        boolean hasPlace(int place) {
            return places != null && place >= 0 && place < places.length;
        }

        boolean isRowFor(Thing put) {
            switch (use) {
                case FOR_CELLS:
                    return put == null || put.isA(CELL);
                case FOR_DUOS:
                    return put == null || put.isA(DUO);
                default:
                    return true;
            }
        }

        int tell(int what) {
            switch (what) {
                case 1:
                    return number;
                case 2:
                    return kind == ROW ? placesOrNone() : numberOf(first);
                case 3:
                    return kind == ROW ? useOrNone() : numberOf(second);
                default:
                    return NONE;
            }
        }

        private int placesOrNone() {
            return places == null ? NONE : places.length;
        }

        private int useOrNone() {
            return places == null ? NONE : use;
        }

        private static int numberOf(Thing told) {
            return told == null ? NONE : told.number;
        }
    }

    /** Makes THINGS, and counts them and their PLACES over the object's whole life. */
    private static final class Maker {
        private static final int PLACES_EVER = 20000;

        private int made;
        private int placesUsed;

        /** A NUM or a FAULT. */
        Thing withValue(int kind, long value) {
            Thing thing = new Thing(made++, kind);
            thing.value = value;
            return thing;
        }

        /** A CELL, a DUO or, with nothing for the second, a BOX. */
        Thing withFields(int kind, Thing first, Thing second) {
            Thing thing = new Thing(made++, kind);
            thing.first = first;
            thing.second = second;
            return thing;
        }

        boolean hasRoomFor(int places) {
            return places >= 0 && places <= PLACES_EVER - placesUsed;
        }

        /** Without any PLACES where there is no room for them; the caller has asked that ahead. */
        Thing row(int use, int places) {
            Thing row = rowWithoutPlaces();
            if (hasRoomFor(places)) {
                placesUsed += places;
                row.use = use;
                row.places = new Thing[places];
            }
            return row;
        }

        Thing rowWithoutPlaces() {
            return new Thing(made++, Thing.ROW);
        }
    }

    /**
     * A NODE at work. Frames form a chain, one a DEPTH, and are used again by later NODES of that
     * DEPTH; the outermost one, at DEPTH 0, has no NODE and only gets what the run gives.
     */
    private static final class Frame {
        static final int NOT_BEGUN = -1;
        static final int DONE = 3;

        final Frame outer;
        final int depth;
        private Frame inner;
        Node node;
        /** The PART that was worked last, or is being worked. */
        int working;
        Thing a;
        Thing b;
        Thing c;
        /** What the PART that was worked last gave. */
        Thing latest;
        /** How many times TIMES has still to work its B. */
        long left;

        Frame(Frame outer, int depth) {
            this.outer = outer;
            this.depth = depth;
        }

        Frame within() {
            if (inner == null) {
                inner = new Frame(this, depth + 1);
            }
            return inner;
        }

        void begin(Node begun) {
            node = begun;
            working = NOT_BEGUN;
            a = null;
            b = null;
            c = null;
            latest = null;
            left = 0L;
        }

        void receive(Thing given) {
            latest = given;
            switch (working) {
                case Node.A:
                    a = given;
                    break;
                case Node.B:
                    b = given;
                    break;
                default:
                    c = given;
                    break;
            }
        }
    }

    /**
     * Works NODES. The open ones are a chain of frames, not calls of Java methods in one another,
     * so that a DEPTH of 200 needs no deep stack of the machine beneath.
     */
    private static final class Machine {
        static final int STEPS_A_RUN = 10000;
        private static final int STEPS_EVER = 50000;
        private static final int SLOTS = 256;
        private static final int MOST_DEPTH = 200;
        /** A STEP leads to a few turns at most, so no run comes near this. */
        static final int MOST_TURNS = 1000000;

        private static final int LATEST_RUN = -1;
        private static final int STEPS_SPENT = -1;

        private static final int MISSING = 1;
        private static final int OUTSIDE = 2;
        private static final int OF_ANOTHER_KIND = 3;
        private static final int TOO_WIDE = 4;
        private static final int BELOW_ZERO = 5;
        private static final int BY_ZERO = 6;
        private static final int RAISED = 7;
        private static final int TOO_DEEP = 7;
        private static final int NO_ROOM = 8;

        private static final int ASK = 0;
        private static final int SWAP = 1;
        private static final int ADD = 2;
        private static final int SUBTRACT = 3;
        private static final int MULTIPLY = 4;
        private static final int DIVIDE = 5;
        private static final int REST = 6;
        private static final int SAME = 7;

        final Program program;
        private final Maker maker;
        private final Thing[] slots;
        private final Frame outermost;
        private Frame top;
        private Thing held;
        private Thing gave;
        private int stepsUsedEver;
        private int stepsAllowed;
        private boolean spent;
        int stepsTaken;
        int faultKind;
        int faultAt;

        Machine() {
            program = new Program();
            maker = new Maker();
            slots = new Thing[SLOTS];
            outermost = new Frame(null, 0);
            top = outermost;
            faultAt = NONE;
        }

        boolean canSee(int i) {
            return i == LATEST_RUN || isSlot(i);
        }

        Thing seenAt(int i) {
            if (i == LATEST_RUN) {
                return gave;
            }
            return isSlot(i) ? slots[i] : null;
        }

        void forget() {
            for (int i = 0; i < SLOTS; i++) {
                slots[i] = null;
            }
            held = null;
            gave = null;
        }

        void begin(Node node, int steps) {
            stepsAllowed = Math.min(steps, STEPS_EVER - stepsUsedEver);
            stepsTaken = 0;
            spent = false;
            clearFault();
            gave = null;
            outermost.begin(null);
            top = outermost;
            if (node == null) {
                failAt(NONE, MISSING);
            } else {
                open(node);
            }
        }

        boolean isAtWork() {
            return top.depth > 0 && !spent;
        }

        /** Opens a PART of the innermost frame, finishes that frame, or passes a fault outward. */
        void takeTurn() {
            Frame frame = top;
            if (faultKind != 0) {
                passFault(frame);
                return;
            }
            int which = nextPart(frame);
            if (faultKind != 0) {
                return;
            }
            if (which == Frame.DONE) {
                close(frame, finish(frame));
            } else {
                workPart(frame, which);
            }
        }

        int end() {
            stepsUsedEver += stepsTaken;
            if (spent) {
                return STEPS_SPENT;
            }
            if (faultKind != 0) {
                return 1 + faultKind;
            }
            gave = outermost.latest;
            return 0;
        }

        private void open(Node node) {
            if (stepsTaken >= stepsAllowed) {
                spent = true;
                return;
            }
            stepsTaken++;
            if (top.depth >= MOST_DEPTH) {
                failAt(node.number, TOO_DEEP);
                return;
            }
            top = top.within();
            top.begin(node);
        }

        private void close(Frame frame, Thing given) {
            if (faultKind == 0) {
                top = frame.outer;
                top.receive(given);
            }
        }

        private void workPart(Frame frame, int which) {
            frame.working = which;
            Node worked = program.at(frame.node.get(which));
            if (worked == null) {
                failAt(frame.node.number, MISSING);
            } else {
                open(worked);
            }
        }

        private int nextPart(Frame frame) {
            switch (frame.node.op) {
                case Node.TRY:
                    return frame.working == Frame.NOT_BEGUN ? Node.A : Frame.DONE;
                case Node.IF:
                    return nextOfIf(frame);
                case Node.TIMES:
                    return nextOfTimes(frame);
                default:
                    return nextInOrder(frame);
            }
        }

        private int nextInOrder(Frame frame) {
            for (int which = frame.working + 1; which <= Node.C; which++) {
                if (frame.node.works(which)) {
                    return which;
                }
            }
            return Frame.DONE;
        }

        private int nextOfIf(Frame frame) {
            if (frame.working == Frame.NOT_BEGUN) {
                return Node.A;
            }
            if (frame.working != Node.A || lacks(frame, frame.a, Thing.NUM)) {
                return Frame.DONE;
            }
            return frame.a.value != 0L ? Node.B : Node.C;
        }

        private int nextOfTimes(Frame frame) {
            if (frame.working == Frame.NOT_BEGUN) {
                return Node.A;
            }
            if (frame.working == Node.A) {
                if (lacks(frame, frame.a, Thing.NUM)) {
                    return Frame.DONE;
                }
                frame.left = frame.a.value;
                frame.latest = null;
            }
            if (frame.left < 1L) {
                return Frame.DONE;
            }
            frame.left--;
            return Node.B;
        }

        private void passFault(Frame frame) {
            if (!takesFault(frame)) {
                top = frame.outer;
                return;
            }
            slots[0] = maker.withValue(Thing.NUM, faultKind);
            clearFault();
            workPart(frame, Node.C);
        }

        private boolean takesFault(Frame frame) {
            if (frame.node.op != Node.TRY || frame.working != Node.A) {
                return false;
            }
            int taken = frame.node.get(Node.B);
            return taken == 0 || taken == faultKind;
        }

        private void clearFault() {
            faultKind = 0;
            faultAt = NONE;
        }

        /** Gives nothing, so that an OP can end with it. */
        private Thing failAt(int node, int kind) {
            faultAt = node;
            faultKind = kind;
            return null;
        }

        /** Whether it isn't the THING that is asked for, which is a fault then. */
        private boolean lacks(Frame frame, Thing given, int asked) {
            if (given == null) {
                failAt(frame.node.number, MISSING);
                return true;
            }
            if (!given.isA(asked)) {
                failAt(frame.node.number, OF_ANOTHER_KIND);
                return true;
            }
            return false;
        }

        private Thing finish(Frame frame) {
            switch (frame.node.op) {
                case Node.LIT:
                    return maker.withValue(Thing.NUM, frame.node.literal);
                case Node.GET:
                case Node.SET:
                    return useSlot(frame);
                case Node.CELL:
                    return maker.withFields(Thing.CELL, frame.a, frame.b);
                case Node.DUO:
                    return maker.withFields(Thing.DUO, frame.a, frame.b);
                case Node.BOX:
                    return maker.withFields(Thing.BOX, frame.a, null);
                case Node.FIELD:
                    return field(frame);
                case Node.STORE:
                    return store(frame);
                case Node.LEFT:
                case Node.RIGHT:
                    return side(frame);
                case Node.SEND:
                    return send(frame);
                case Node.ROW:
                    return row(frame);
                case Node.PUT:
                    return put(frame);
                case Node.AT:
                    return at(frame);
                case Node.SIZE:
                    return size(frame);
                case Node.RAISE:
                    return failAt(frame.node.number, held == null ? MISSING : RAISED);
                case Node.HOLD:
                    return hold(frame);
                default:
                    return frame.latest;
            }
        }

        private boolean isSlot(int i) {
            return i >= 0 && i < SLOTS;
        }

        private Thing useSlot(Frame frame) {
            int slot = frame.node.get(Node.A);
            if (!isSlot(slot)) {
                return failAt(frame.node.number, OUTSIDE);
            }
            if (frame.node.op == Node.SET) {
                slots[slot] = frame.b;
            }
            return slots[slot];
        }

        private Thing field(Frame frame) {
            if (lacks(frame, frame.a, Thing.CELL)) {
                return null;
            }
            return frame.node.get(Node.B) == 0 ? frame.a.first : frame.a.second;
        }

        private Thing store(Frame frame) {
            if (lacks(frame, frame.a, Thing.CELL)) {
                return null;
            }
            if (frame.node.get(Node.B) == 0) {
                frame.a.first = frame.c;
            } else {
                frame.a.second = frame.c;
            }
            return frame.c;
        }

        private Thing side(Frame frame) {
            if (lacks(frame, frame.a, Thing.DUO)) {
                return null;
            }
            return frame.node.op == Node.LEFT ? frame.a.first : frame.a.second;
        }

        private Thing send(Frame frame) {
            if (lacks(frame, frame.a, Thing.BOX)) {
                return null;
            }
            Thing content = frame.a.first;
            int message = frame.node.get(Node.B);
            switch (message) {
                case ASK:
                    return content;
                case SWAP:
                    frame.a.first = frame.c;
                    return content;
                case ADD:
                case SUBTRACT:
                case MULTIPLY:
                case DIVIDE:
                case REST:
                    return reckon(frame, message, content);
                case SAME:
                    return maker.withValue(Thing.NUM, content == frame.c ? 1L : 0L);
                default:
                    return maker.withValue(Thing.NUM, 0L);
            }
        }

        private Thing reckon(Frame frame, int message, Thing content) {
            if (lacks(frame, content, Thing.NUM) || lacks(frame, frame.c, Thing.NUM)) {
                return null;
            }
            long x = content.value;
            long y = frame.c.value;
            switch (message) {
                case ADD:
                    return maker.withValue(Thing.NUM, x + y);
                case SUBTRACT:
                    return maker.withValue(Thing.NUM, x - y);
                case MULTIPLY:
                    return maker.withValue(Thing.NUM, x * y);
                default:
                    break;
            }
            if (y == 0L) {
                return failAt(frame.node.number, BY_ZERO);
            }
            return maker.withValue(Thing.NUM, message == DIVIDE ? x / y : x % y);
        }

        private Thing row(Frame frame) {
            if (lacks(frame, frame.b, Thing.NUM)) {
                return null;
            }
            int use = frame.node.get(Node.A);
            if (use < Thing.FOR_ALL || use > Thing.FOR_DUOS) {
                return maker.rowWithoutPlaces();
            }
            int places = (int) frame.b.value;
            if (places < 0) {
                return failAt(frame.node.number, BELOW_ZERO);
            }
            if (!maker.hasRoomFor(places)) {
                return failAt(frame.node.number, NO_ROOM);
            }
            return maker.row(use, places);
        }

        /** Whether PUT and AT have no PLACE to work on, which is a fault then. */
        private boolean lacksPlace(Frame frame) {
            if (lacks(frame, frame.a, Thing.ROW) || lacks(frame, frame.b, Thing.NUM)) {
                return true;
            }
            if (frame.a.hasPlace((int) frame.b.value)) {
                return false;
            }
            failAt(frame.node.number, frame.a.places == null ? MISSING : OUTSIDE);
            return true;
        }

        private Thing put(Frame frame) {
            if (lacksPlace(frame)) {
                return null;
            }
            if (!frame.a.isRowFor(frame.c)) {
                return failAt(frame.node.number, TOO_WIDE);
            }
            frame.a.places[(int) frame.b.value] = frame.c;
            return frame.c;
        }

        private Thing at(Frame frame) {
            return lacksPlace(frame) ? null : frame.a.places[(int) frame.b.value];
        }

        private Thing size(Frame frame) {
            if (lacks(frame, frame.a, Thing.ROW)) {
                return null;
            }
            if (frame.a.places == null) {
                return failAt(frame.node.number, MISSING);
            }
            return maker.withValue(Thing.NUM, frame.a.places.length);
        }

        private Thing hold(Frame frame) {
            if (lacks(frame, frame.a, Thing.NUM)) {
                return null;
            }
            held = maker.withValue(Thing.FAULT, frame.a.value);
            return held;
        }
    }
}
