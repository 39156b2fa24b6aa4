/** Promise 6. */
public final class ValueTest {
    public static void main(String[] args) {
        Check check = new Check();
        FrameTalk x = new FrameTalk();
        int min = x.lit(Long.MIN_VALUE);
        int five = x.lit(5);
        x.run(x.node(Check.SET, 0, min, 0), 10);
        x.run(x.node(Check.SET, 255, x.node(Check.HOLD, five, 0, 0), 0), 10);
        check.due("NUM in SLOT 0", x.value(0), Long.MIN_VALUE);
        check.due("FAULT in SLOT 255", x.value(255), 5);
        check.due("FAULT that the run gave", x.value(-1), 5);
        int[] outside = {-2, 256, Integer.MIN_VALUE, Integer.MAX_VALUE};
        for (int i : outside) {
            check.due("value(" + i + ")", x.value(i), 0);
        }
        int[] others = {
            x.node(Check.CELL, five, five, 0), x.node(Check.DUO, five, five, 0),
            x.node(Check.BOX, five, 0, 0), x.node(Check.ROW, 0, five, 0)
        };
        for (int node : others) {
            x.run(x.node(Check.SET, 9, node, 0), 10);
            check.due("value(9) of another THING", x.value(9), 0);
            check.due("value(-1) of another THING", x.value(-1), 0);
        }
        check.due("a SLOT with nothing", x.value(77), 0);
        x.run(five, 1);
        check.due("value(-1)", x.value(-1), 5);
        x.run(five, 0);
        check.due("value(-1) behind spent STEPS", x.value(-1), 0);
        x.run(five, 1);
        x.run(x.node(Check.GET, -1, 0, 0), 1);
        check.due("value(-1) behind a fault", x.value(-1), 0);
        x.run(five, 1);
        x.run(99, 1);
        check.due("value(-1), no such NODE", x.value(-1), 0);
        x.run(five, 1);
        x.run(five, -1);
        check.due("value(-1) behind a refused run", x.value(-1), 5);
        check.end();
    }
}
