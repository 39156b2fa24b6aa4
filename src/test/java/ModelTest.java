import java.util.Random;

/** Many made-up runs of up to 512 calls, each answer of FrameTalk compared with the Model's. */
public final class ModelTest {
    private static final int OBJECTS = 40000;
    private static final int CALLS = 512;
    private static final int CALLS_OF_ASK_SLOT = 7;
    private static final int CALLS_OF_ASK_ALL = 3 + 2 * CALLS_OF_ASK_SLOT;
    private static final long[] VALUES = {
        0, 0, 0, 1, 1, 1, 2, 2, 3, 3, 7, -1, -7, 250, 6000, 20001, 1L << 31, (1L << 32) + 1,
        Long.MAX_VALUE, Long.MIN_VALUE
    };
    private static final int[] ODD = {-2, -1, 256, 4000, Integer.MIN_VALUE, Integer.MAX_VALUE};
    private static final int[] GIVE_NUMS = {0, 0, 0, Check.SIZE, Check.SEND};
    private static final int[] GIVE_CELLS = {Check.CELL, Check.DUO};
    private static final int[] STEPS = {-1, 0, 1, 2, 5, 20, 100, 300, 1000, 10000, 10001};

    private final Check check = new Check();
    private final Random random;
    private final int[] answers = new int[12];
    private final int[] ops = new int[CALLS + 1];
    private FrameTalk x;
    private Model model;
    private int count;

    private ModelTest(long seed) {
        random = new Random(seed);
    }

    public static void main(String[] args) {
        ModelTest test = new ModelTest(20261116L);
        for (int i = 0; i < OBJECTS; i++) {
            test.useOneObject();
        }
        test.checkThatAllWasMet();
        test.check.end();
    }

    /** Else the comparison would say little. */
    private void checkThatAllWasMet() {
        for (int answer = -2; answer <= 9; answer++) {
            if (answer == 1) {
                continue; // There is no fault of kind 0.
            }
            int met = answers[answer + 2];
            check.due("runs that answered " + answer + ": " + met + ", many", met > 20 ? 1 : 0, 1);
        }
    }

    private void useOneObject() {
        x = new FrameTalk();
        model = new Model();
        count = 0;
        int calls = 0;
        while (calls + 1 + CALLS_OF_ASK_ALL <= CALLS) {
            calls += oneRound();
        }
    }

    /** How many calls it made. */
    private int oneRound() {
        int chosen = random.nextInt(100);
        if (chosen < 15) {
            addLit();
        } else if (chosen < 55) {
            addNode();
        } else if (chosen < 65) {
            changePart();
        } else if (chosen < 85) {
            return runAndAsk();
        } else if (chosen < 99) {
            askSlot(anyInt(6));
            return CALLS_OF_ASK_SLOT;
        } else if (random.nextInt(3) == 0) {
            x.wipe();
            model.wipe();
            count = 0;
            askAll("wipe()");
            return 1 + CALLS_OF_ASK_ALL;
        }
        return 1;
    }

    private void addLit() {
        long v = VALUES[random.nextInt(VALUES.length)];
        int got = x.lit(v);
        check.due("lit(" + v + ")", got, model.lit(v));
        remember(got, 0);
    }

    private void addNode() {
        int op = random.nextInt(40) == 0 ? random.nextInt(30) - 4 : 1 + random.nextInt(20);
        int a = anyPart(op, 0);
        int b = anyPart(op, 1);
        int c = anyPart(op, 2);
        int got = x.node(op, a, b, c);
        check.due("node(" + op + ", " + a + ", " + b + ", " + c + ")", got, model.node(op, a, b, c));
        remember(got, op);
    }

    private void remember(int node, int op) {
        if (node >= 0 && node < ops.length) {
            ops[node] = op;
            count = node + 1;
        }
    }

    private void changePart() {
        int node = anyInt(count + 1);
        int which = random.nextInt(12) == 0 ? random.nextInt(7) - 2 : random.nextInt(3);
        int child = anyInt(count + 2);
        String call = "part(" + node + ", " + which + ", " + child + ")";
        check.due(call, x.part(node, which, child), model.part(node, which, child));
    }

    private int runAndAsk() {
        int node = random.nextBoolean() ? anyInt(count + 1) : count - 1;
        int steps = STEPS[random.nextInt(STEPS.length)];
        String call = "run(" + node + ", " + steps + ")";
        int got = x.run(node, steps);
        check.due(call, got, model.run(node, steps));
        if (got >= -2 && got <= 9) {
            answers[got + 2]++;
        }
        askAll(call);
        return 1 + CALLS_OF_ASK_ALL;
    }

    private void askAll(String behind) {
        check.due("fault() behind " + behind, x.fault(), model.fault());
        check.due("faultNode() behind " + behind, x.faultNode(), model.faultNode());
        check.due("steps() behind " + behind, x.steps(), model.steps());
        askSlot(-1);
        askSlot(random.nextInt(4));
    }

    private void askSlot(int i) {
        check.due("value(" + i + ")", x.value(i), model.value(i));
        for (int what = -1; what <= 4; what++) {
            check.due("thing(" + i + ", " + what + ")", x.thing(i, what), model.thing(i, what));
        }
    }

    /** What the OP asks for, most of the time; else a run would soon end by a fault 1 or 3. */
    private int anyPart(int op, int which) {
        if (isSmall(op, which)) {
            return anyInt(op == Check.SEND || op == Check.TRY ? 9 : 3);
        }
        if (random.nextInt(8) == 0) {
            return anyInt(count);
        }
        if (which == 0) {
            return firstPart(op);
        }
        boolean asksNum = which == 1 && (op == Check.ROW || op == Check.PUT || op == Check.AT)
                || which == 2 && op == Check.SEND;
        return asksNum ? nodeOf(GIVE_NUMS) : anyInt(count);
    }

    private int firstPart(int op) {
        switch (op) {
            case Check.FIELD:
            case Check.STORE:
                return nodeOf(GIVE_CELLS);
            case Check.LEFT:
            case Check.RIGHT:
                return nodeOf(Check.DUO);
            case Check.SEND:
                return nodeOf(Check.BOX);
            case Check.PUT:
            case Check.AT:
            case Check.SIZE:
                return nodeOf(Check.ROW);
            case Check.HOLD:
            case Check.IF:
            case Check.TIMES:
                return nodeOf(GIVE_NUMS);
            default:
                return anyInt(count);
        }
    }

    private static boolean isSmall(int op, int which) {
        if (which == 0) {
            return op <= Check.SET || op == Check.ROW;
        }
        return which == 1 && (op == Check.FIELD || op == Check.STORE || op == Check.TRY || op == Check.SEND);
    }

    private int nodeOf(int... wanted) {
        int op = wanted[random.nextInt(wanted.length)];
        int start = count == 0 ? 0 : random.nextInt(count);
        for (int i = 0; i < count; i++) {
            int node = (start + i) % count;
            if (ops[node] == op) {
                return node;
            }
        }
        return anyInt(count);
    }

    private int anyInt(int below) {
        if (below <= 0 || random.nextInt(40) == 0) {
            return ODD[random.nextInt(ODD.length)];
        }
        return random.nextInt(below);
    }
}
