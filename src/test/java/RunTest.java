/** Promise 5. */
public final class RunTest {
    public static void main(String[] args) {
        Check check = new Check();
        answers(check);
        refusesStepsAheadOfAll(check);
        endsWithoutAStep(check);
        spendsFiftyThousandEver(check);
        spentEndsInsideTry(check);
        endsAtDepth(check);
        check.end();
    }

    private static void answers(Check check) {
        FrameTalk x = new FrameTalk();
        int one = x.lit(1);
        check.due("a NUM", x.run(one, 1), 0);
        check.due("nothing", x.run(x.node(Check.GET, 0, 0, 0), 1), 0);
        check.due("a fault 2", x.run(x.node(Check.GET, 256, 0, 0), 1), 3);
        int[] others = {-1, 3, Integer.MIN_VALUE, Integer.MAX_VALUE};
        for (int node : others) {
            x.run(one, 1);
            check.dueFault("run(" + node + ", ..)", x, node, 1, -1);
            check.due("its STEPS", x.steps(), 0);
        }
        check.due("no such NODE, no STEPS", x.run(77, 0), 2);
    }

    private static void refusesStepsAheadOfAll(Check check) {
        FrameTalk x = new FrameTalk();
        int bad = x.node(Check.GET, 256, 0, 0);
        int good = x.lit(4);
        int[] refused = {-1, 10001, Integer.MIN_VALUE, Integer.MAX_VALUE};
        for (int steps : refused) {
            x.run(bad, 10);
            check.due("run(good, " + steps + ")", x.run(good, steps), -2);
            check.due("run(missing, " + steps + ")", x.run(99, steps), -2);
            check.due("fault() is kept", x.fault(), 2);
            check.due("faultNode() is kept", x.faultNode(), bad);
            check.due("steps() is kept", x.steps(), 1);
            x.run(good, 10);
            check.due("run(bad, " + steps + ")", x.run(bad, steps), -2);
            check.due("what was given is kept", x.value(-1), 4);
        }
        check.due("run(good, 10000)", x.run(good, 10000), 0);
    }

    private static void endsWithoutAStep(Check check) {
        FrameTalk x = new FrameTalk();
        int seven = x.lit(7);
        int set = x.node(Check.SET, 5, seven, 0);
        int both = x.node(Check.CELL, set, seven, 0);
        check.due("0 STEPS", x.run(both, 0), -1);
        check.due("steps()", x.steps(), 0);
        check.due("1 STEP", x.run(both, 1), -1);
        check.due("2 STEPS", x.run(both, 2), -1);
        check.due("SLOT 5 with 2", x.thing(5, 0), 0);
        x.run(seven, 1);
        check.due("3 STEPS", x.run(both, 3), -1);
        check.due("steps()", x.steps(), 3);
        check.due("what was done stays done", x.value(5), 7);
        check.due("it gave nothing", x.thing(-1, 0), 0);
        check.due("no fault", x.fault(), 0);
        check.due("no NODE of a fault", x.faultNode(), -1);
        check.due("4 STEPS", x.run(both, 4), 0);
        int missing = x.node(Check.BOX, -1, 0, 0);
        check.due("a missing PART takes no STEP", x.run(missing, 1), 2);
    }

    private static void spendsFiftyThousandEver(Check check) {
        FrameTalk x = new FrameTalk();
        int seven = x.lit(7);
        int endless = x.node(Check.TIMES, x.lit(Long.MAX_VALUE), seven, 0);
        for (int i = 0; i < 4; i++) {
            check.due("endless", x.run(endless, 10000), -1);
            check.due("its STEPS", x.steps(), 10000);
        }
        check.due("endless, 9998", x.run(endless, 9998), -1);
        check.due("49,999th", x.run(seven, 10000), 0);
        check.due("endless with one left", x.run(endless, 10000), -1);
        check.due("its STEPS", x.steps(), 1);
        x.wipe();
        check.due("lit behind wipe", x.lit(3), 0);
        check.due("none is left", x.run(0, 10000), -1);
        check.due("steps()", x.steps(), 0);
        check.due("no such NODE", x.run(1, 10000), 2);
        check.due("-2 ahead of all else", x.run(0, 10001), -2);
    }

    private static void spentEndsInsideTry(Check check) {
        FrameTalk x = new FrameTalk();
        int seven = x.lit(7);
        int endless = x.node(Check.TIMES, x.lit(Long.MAX_VALUE), seven, 0);
        int taken = x.node(Check.TRY, endless, 0, seven);
        check.due("TRY doesn't take spent STEPS", x.run(taken, 50), -1);
        check.due("SLOT 0", x.thing(0, 0), 0);
        check.due("steps()", x.steps(), 50);
        check.dueValue("the next run is as ever", x, seven, 7);
    }

    private static void endsAtDepth(Check check) {
        FrameTalk x = new FrameTalk();
        int node = x.lit(1);
        for (int i = 0; i < 199; i++) {
            node = x.node(Check.BOX, node, 0, 0);
        }
        check.dueKind("DEPTH 200", x, node, 4);
        check.due("its STEPS", x.steps(), 200);
        int deeper = x.node(Check.BOX, node, 0, 0);
        check.dueFault("DEPTH 201", x, deeper, 7, 0);
        check.due("its STEPS", x.steps(), 201);
        check.due("DEPTH 201 without a STEP", x.run(deeper, 200), -1);
        int taken = x.node(Check.TRY, node, 7, x.lit(55));
        check.dueValue("TRY 7 takes DEPTH 201", x, taken, 55);
        check.due("the kind in SLOT 0", x.value(0), 7);
        depthTooGreatForTryItself(check);
    }

    private static void depthTooGreatForTryItself(Check check) {
        FrameTalk x = new FrameTalk();
        int one = x.lit(1);
        int attempt = x.node(Check.TRY, one, 0, one);
        int node = attempt;
        for (int i = 0; i < 200; i++) {
            node = x.node(Check.BOX, node, 0, 0);
        }
        check.dueFault("a TRY at DEPTH 201", x, node, 7, attempt);
        FrameTalk y = new FrameTalk();
        int two = y.lit(2);
        int three = y.lit(3);
        node = y.node(Check.TRY, two, 0, three);
        for (int i = 0; i < 199; i++) {
            node = y.node(Check.BOX, node, 0, 0);
        }
        check.dueFault("a TRY at DEPTH 200: its C is too deep, too", y, node, 7, three);
        check.due("the kind in SLOT 0", y.value(0), 7);
        check.due("STEPS", y.steps(), 202);
    }
}
