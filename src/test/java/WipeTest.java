/** Promise 11. */
public final class WipeTest {
    public static void main(String[] args) {
        Check check = new Check();
        forgets(check);
        keepsWhatIsToldOfTheRun(check);
        keepsPlacesUsed(check);
        check.end();
    }

    private static void forgets(Check check) {
        FrameTalk x = new FrameTalk();
        int five = x.lit(5);
        x.run(x.node(Check.SET, 0, five, 0), 10);
        x.run(x.node(Check.SET, 255, five, 0), 10);
        x.run(x.node(Check.HOLD, five, 0, 0), 10);
        x.wipe();
        check.due("SLOT 0", x.thing(0, 0), 0);
        check.due("SLOT 255", x.thing(255, 0), 0);
        check.due("what the run gave", x.thing(-1, 0), 0);
        check.due("its VALUE", x.value(-1), 0);
        check.due("part of a NODE that was", x.part(0, 0, 0), -1);
        check.due("run of a NODE that was", x.run(0, 10), 2);
        int raise = x.node(Check.RAISE, 1, 0, 0);
        check.due("the next NODE", raise, 0);
        int one = x.lit(1);
        check.due("the one behind it", one, 1);
        check.dueFault("its PART was none such", x, raise, 1, raise);
        check.due("its STEPS", x.steps(), 1);
        x.part(raise, 0, one);
        check.dueFault("nothing is HELD", x, raise, 1, raise);
        x.run(one, 10);
        check.due("numbers of THINGS go on", x.thing(-1, 1), 5);
    }

    private static void keepsWhatIsToldOfTheRun(Check check) {
        FrameTalk x = new FrameTalk();
        int five = x.lit(5);
        int bad = x.node(Check.FIELD, five, 0, 0);
        x.run(bad, 10);
        x.wipe();
        check.due("fault()", x.fault(), 3);
        check.due("faultNode()", x.faultNode(), bad);
        check.due("steps()", x.steps(), 2);
        x.wipe();
        check.due("fault() behind a second", x.fault(), 3);
    }

    private static void keepsPlacesUsed(Check check) {
        FrameTalk x = new FrameTalk();
        check.dueKind("ROW of 19999", x, x.node(Check.ROW, 0, x.lit(19999), 0), 5);
        x.wipe();
        int two = x.lit(2);
        int row = x.node(Check.ROW, 1, two, 0);
        check.dueFault("ROW of 2", x, row, 8, row);
        check.dueKind("ROW of 1", x, x.node(Check.ROW, 1, x.lit(1), 0), 5);
        check.dueFault("ROW of 2 again", x, row, 8, row);
        check.dueKind("ROW of 0", x, x.node(Check.ROW, 1, x.lit(0), 0), 5);
        check.dueKind("ROW without PLACES", x, x.node(Check.ROW, 3, two, 0), 5);
    }
}
