/** Promise 3. */
public final class NodeTest {
    public static void main(String[] args) {
        Check check = new Check();
        refusesOtherOps(check);
        looksItsPartsUpNow(check);
        takesSmallLettersAsTheyAre(check);
        sharesParts(check);
        check.end();
    }

    private static void refusesOtherOps(Check check) {
        FrameTalk x = new FrameTalk();
        int[] refused = {0, -1, 21, 22, Integer.MIN_VALUE, Integer.MAX_VALUE};
        for (int op : refused) {
            check.due("node(" + op + ", ..)", x.node(op, 0, 0, 0), -1);
        }
        for (int op = 1; op <= 20; op++) {
            check.due("node(" + op + ", ..)", x.node(op, 0, 0, 0), op - 1);
        }
        check.due("node(21, ..) behind others", x.node(21, 0, 0, 0), -1);
    }

    private static void looksItsPartsUpNow(Check check) {
        FrameTalk x = new FrameTalk();
        int itself = x.node(Check.BOX, 0, 0, 0);
        check.dueFault("the NODE that is being made is none such", x, itself, 1, itself);
        int early = x.node(Check.BOX, 2, 0, 0);
        int late = x.lit(4);
        check.due("number of the late NODE", late, 2);
        check.dueFault("a NODE made later is not the PART", x, early, 1, early);
        check.due("its STEPS", x.steps(), 1);
        int[] missing = {-1, -2, 100, Integer.MIN_VALUE, Integer.MAX_VALUE};
        for (int number : missing) {
            int node = x.node(Check.CELL, late, number, 0);
            check.dueFault("PART b of number " + number, x, node, 1, node);
            check.due("STEPS with PART b missing", x.steps(), 2);
        }
        int put = x.node(Check.IF, x.lit(0), late, 100);
        check.dueFault("PART c is missing", x, put, 1, put);
    }

    private static void takesSmallLettersAsTheyAre(Check check) {
        FrameTalk x = new FrameTalk();
        int seven = x.lit(7);
        check.dueValue("SET 200", x, x.node(Check.SET, 200, seven, 0), 7);
        check.due("SLOT 200", x.value(200), 7);
        check.dueValue("GET 200", x, x.node(Check.GET, 200, 0, 0), 7);
        int cell = x.node(Check.CELL, seven, x.lit(8), 0);
        check.dueValue("FIELD 1000", x, x.node(Check.FIELD, cell, 1000, 0), 8);
        check.dueValue("FIELD -1", x, x.node(Check.FIELD, cell, -1, 0), 8);
        check.dueValue("unnamed PARTS", x, x.node(Check.FIELD, cell, 0, 5000), 7);
    }

    private static void sharesParts(Check check) {
        FrameTalk x = new FrameTalk();
        int seven = x.lit(7);
        int both = x.node(Check.CELL, seven, seven, 0);
        x.run(both, 10);
        check.due("first FIELD", x.thing(-1, 2), 0);
        check.due("second FIELD", x.thing(-1, 3), 1);
        check.due("number of the CELL", x.thing(-1, 1), 2);
        check.due("STEPS", x.steps(), 3);
    }
}
