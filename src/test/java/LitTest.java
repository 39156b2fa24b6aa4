/** Promise 2. */
public final class LitTest {
    public static void main(String[] args) {
        Check check = new Check();
        givesItsValue(check);
        isNewEachTime(check);
        seesNoParts(check);
        hasAnEnd(check);
        check.end();
    }

    private static void givesItsValue(Check check) {
        FrameTalk x = new FrameTalk();
        long[] values = {0, 1, -1, 99, Long.MAX_VALUE, Long.MIN_VALUE, 1L << 32, -(1L << 32)};
        for (int i = 0; i < values.length; i++) {
            check.due("number of lit(" + values[i] + ")", x.lit(values[i]), i);
            check.dueValue("lit(" + values[i] + ")", x, i, values[i]);
            check.due("kind of lit(" + values[i] + ")", x.thing(-1, 0), 1);
        }
    }

    private static void isNewEachTime(Check check) {
        FrameTalk x = new FrameTalk();
        int five = x.lit(5);
        for (int number = 0; number < 4; number++) {
            x.run(five, 1);
            check.due("the NUM's number", x.thing(-1, 1), number);
        }
    }

    private static void seesNoParts(Check check) {
        FrameTalk x = new FrameTalk();
        int five = x.lit(5);
        for (int which = 0; which < 3; which++) {
            check.due("part of a lit", x.part(five, which, five), 0);
        }
        check.dueValue("a lit that was told PARTS", x, five, 5);
        check.due("its STEPS", x.steps(), 1);
    }

    // More than 512 calls, but the document tells the bound and no call may fail.
    private static void hasAnEnd(Check check) {
        FrameTalk x = new FrameTalk();
        for (int i = 0; i < 4000; i++) {
            check.due("lit", x.lit(i), i);
        }
        check.due("lit beyond 4000", x.lit(1), -1);
        check.due("node beyond 4000", x.node(Check.GET, 0, 0, 0), -1);
        check.dueValue("the last NODE", x, 3999, 3999);
        x.wipe();
        check.due("lit behind wipe", x.lit(1), 0);
    }
}
