/** Promises 8 and 9. */
public final class FaultTest {
    public static void main(String[] args) {
        Check check = new Check();
        FrameTalk x = new FrameTalk();
        int none = x.node(Check.GET, 9, 0, 0);
        int zero = x.lit(0);
        int below = x.lit(-1);
        int wide = x.lit(30000);
        int cell = x.node(Check.CELL, zero, zero, 0);
        int row = x.node(Check.ROW, 2, x.lit(1), 0);
        int self = x.node(Check.BOX, 0, 0, 0);
        x.part(self, 0, self);
        int[] faulty = {
            x.node(Check.FIELD, none, 0, 0), x.node(Check.GET, -1, 0, 0), x.node(Check.FIELD, zero, 0, 0),
            x.node(Check.PUT, row, zero, cell), x.node(Check.ROW, 0, below, 0),
            x.node(Check.SEND, x.node(Check.BOX, zero, 0, 0), 5, zero), self, x.node(Check.ROW, 0, wide, 0)
        };
        for (int i = 0; i < faulty.length; i++) {
            int kind = i + 1;
            check.dueFault("fault " + kind, x, faulty[i], kind, faulty[i]);
            int outer = x.node(Check.SEQ, zero, x.node(Check.BOX, faulty[i], 0, 0), 0);
            check.dueFault("fault " + kind + " goes outward", x, outer, kind, faulty[i]);
            check.due("fault() is told again", x.fault(), kind);
            int taken = x.node(Check.TRY, outer, kind, zero);
            check.due("taken", x.run(taken, 1000), 0);
            check.due("fault() when it was taken", x.fault(), 0);
            check.due("faultNode() when it was taken", x.faultNode(), -1);
        }
        check.dueFault("no such NODE", x, 999, 1, -1);
        check.due("spent", x.run(zero, 0), -1);
        check.due("fault() of spent STEPS", x.fault(), 0);
        check.due("faultNode() of spent STEPS", x.faultNode(), -1);
        check.end();
    }
}
