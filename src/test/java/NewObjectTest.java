/** Promise 1. */
public final class NewObjectTest {
    public static void main(String[] args) {
        Check check = new Check();
        FrameTalk x = new FrameTalk();
        FrameTalk w = new FrameTalk();
        for (int slot = 0; slot < 256; slot++) {
            check.due("thing(" + slot + ", 0)", x.thing(slot, 0), 0);
            check.due("value(" + slot + ")", w.value(slot), 0);
        }
        check.due("thing(-1, 0)", x.thing(-1, 0), 0);
        check.due("value(-1)", x.value(-1), 0);
        check.due("fault()", x.fault(), 0);
        check.due("faultNode()", x.faultNode(), -1);
        check.due("steps()", x.steps(), 0);

        FrameTalk y = new FrameTalk();
        check.due("part(0, 0, 0) without NODES", y.part(0, 0, 0), -1);
        check.due("run(0, 10) without NODES", y.run(0, 10), 2);
        int one = y.lit(1);
        check.due("the first NODE", one, 0);
        int raise = y.node(Check.RAISE, one, 0, 0);
        check.dueFault("nothing is HELD", y, raise, 1, raise);

        FrameTalk z = new FrameTalk();
        int kept = z.node(Check.SET, 3, z.lit(7), 0);
        z.run(kept, 10);
        check.due("one object's SLOT", z.value(3), 7);
        check.due("another object's SLOT", y.value(3), 0);
        check.end();
    }
}
