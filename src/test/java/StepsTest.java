/** Promise 10. */
public final class StepsTest {
    public static void main(String[] args) {
        Check check = new Check();
        FrameTalk x = new FrameTalk();
        check.due("ahead of any", x.steps(), 0);
        int three = x.lit(3);
        int zero = x.lit(0);
        due(check, x, "LIT", three, 1);
        due(check, x, "CELL", x.node(Check.CELL, three, three, 0), 3);
        due(check, x, "TIMES 3", x.node(Check.TIMES, three, zero, 0), 5);
        due(check, x, "TIMES 0", x.node(Check.TIMES, zero, three, 0), 2);
        due(check, x, "IF takes one side", x.node(Check.IF, zero, three, zero), 3);
        due(check, x, "SEND 0 works C, too", x.node(Check.SEND, x.node(Check.BOX, three, 0, 0), 0, zero), 4);
        due(check, x, "STORE", x.node(Check.STORE, x.node(Check.CELL, zero, zero, 0), 0, zero), 5);
        due(check, x, "TRY without a fault", x.node(Check.TRY, three, 0, zero), 2);
        due(check, x, "PUT", x.node(Check.PUT, x.node(Check.ROW, 0, three, 0), zero, three), 5);
        due(check, x, "SEQ", x.node(Check.SEQ, three, zero, 0), 3);
        int faulty = x.node(Check.GET, -1, 0, 0);
        due(check, x, "TRY with a fault", x.node(Check.TRY, faulty, 0, zero), 3);
        due(check, x, "TRY of nothing", x.node(Check.TRY, -1, 0, zero), 2);
        due(check, x, "PART b is worked ahead of the look at a", x.node(Check.AT, three, zero, 0), 3);
        due(check, x, "a missing PART b", x.node(Check.AT, three, -1, 0), 2);
        due(check, x, "a fault ends it", x.node(Check.CELL, faulty, three, 0), 2);
        check.due("a refused run", x.run(three, -1), -2);
        check.due("steps() is kept", x.steps(), 2);
        x.run(999, 10);
        check.due("no such NODE", x.steps(), 0);
        check.end();
    }

    private static void due(Check check, FrameTalk x, String what, int node, int want) {
        x.run(node, Check.PLENTY);
        check.due("STEPS of " + what, x.steps(), want);
    }
}
