/** Promise 4. */
public final class PartTest {
    public static void main(String[] args) {
        Check check = new Check();
        changesEachPart(check);
        refuses(check);
        looksUpNow(check);
        ignoresUnnamed(check);
        mayBeItself(check);
        check.end();
    }

    private static void changesEachPart(Check check) {
        FrameTalk x = new FrameTalk();
        int one = x.lit(1);
        int zero = x.lit(0);
        int seven = x.lit(7);
        int eight = x.lit(8);
        int choice = x.node(Check.IF, one, seven, seven);
        check.due("part b", x.part(choice, 1, eight), 0);
        check.dueValue("IF with b changed", x, choice, 8);
        check.due("part a", x.part(choice, 0, zero), 0);
        check.dueValue("IF with a changed", x, choice, 7);
        check.due("part c", x.part(choice, 2, one), 0);
        check.dueValue("IF with c changed", x, choice, 1);
        int get = x.node(Check.GET, 300, 0, 0);
        check.dueFault("GET 300", x, get, 2, get);
        check.due("part a of GET", x.part(get, 0, 255), 0);
        check.dueKind("GET 255", x, get, 0);
        int field = x.node(Check.FIELD, x.node(Check.CELL, seven, eight, 0), 0, 0);
        check.due("part b of FIELD", x.part(field, 1, 4711), 0);
        check.dueValue("FIELD 4711", x, field, 8);
    }

    private static void refuses(Check check) {
        FrameTalk x = new FrameTalk();
        int one = x.lit(1);
        int box = x.node(Check.BOX, one, 0, 0);
        int[] others = {-1, 2, Integer.MIN_VALUE, Integer.MAX_VALUE};
        for (int node : others) {
            check.due("part(" + node + ", 0, 0)", x.part(node, 0, 0), -1);
        }
        int[] whiches = {-1, 3, Integer.MIN_VALUE, Integer.MAX_VALUE};
        for (int which : whiches) {
            check.due("part(box, " + which + ", -1)", x.part(box, which, -1), -1);
        }
        check.dueKind("the BOX is as before", x, box, 4);
    }

    private static void looksUpNow(Check check) {
        FrameTalk x = new FrameTalk();
        int one = x.lit(1);
        int box = x.node(Check.BOX, one, 0, 0);
        check.due("part becomes nothing", x.part(box, 0, 2), 0);
        check.due("the next NODE", x.lit(5), 2);
        check.dueFault("a NODE made later is not the PART", x, box, 1, box);
        check.due("part becomes it now", x.part(box, 0, 2), 0);
        check.dueKind("BOX of the later NODE", x, box, 4);
        check.due("part becomes nothing again", x.part(box, 0, -1), 0);
        check.dueFault("PART -1", x, box, 1, box);
    }

    private static void ignoresUnnamed(Check check) {
        FrameTalk x = new FrameTalk();
        int one = x.lit(1);
        int box = x.node(Check.BOX, one, 0, 0);
        check.due("part b of BOX", x.part(box, 1, box), 0);
        check.due("part c of BOX", x.part(box, 2, -9), 0);
        check.dueKind("the BOX", x, box, 4);
        check.due("its STEPS", x.steps(), 2);
    }

    private static void mayBeItself(Check check) {
        FrameTalk x = new FrameTalk();
        int box = x.node(Check.BOX, 0, 0, 0);
        check.due("part is itself", x.part(box, 0, box), 0);
        check.dueFault("a BOX of itself", x, box, 7, box);
        check.due("STEPS down to DEPTH 201", x.steps(), 201);
    }
}
