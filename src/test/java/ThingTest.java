/** Promise 7. */
public final class ThingTest {
    public static void main(String[] args) {
        Check check = new Check();
        tellsAll(check);
        tellsRows(check);
        tellsNothing(check);
        tellsChanges(check);
        check.end();
    }

    private static void due(Check check, FrameTalk x, int i, int kind, int number, int first, int second) {
        check.due("thing(" + i + ", 0)", x.thing(i, 0), kind);
        check.due("thing(" + i + ", 1)", x.thing(i, 1), number);
        check.due("thing(" + i + ", 2)", x.thing(i, 2), first);
        check.due("thing(" + i + ", 3)", x.thing(i, 3), second);
        int[] others = {-1, 4, Integer.MIN_VALUE, Integer.MAX_VALUE};
        for (int what : others) {
            check.due("thing(" + i + ", " + what + ")", x.thing(i, what), -1);
        }
    }

    private static void tellsAll(Check check) {
        FrameTalk x = new FrameTalk();
        int five = x.lit(5);
        int none = x.node(Check.GET, 200, 0, 0);
        x.run(x.node(Check.SET, 1, five, 0), 10);
        due(check, x, 1, 1, 0, -1, -1);
        due(check, x, -1, 1, 0, -1, -1);
        x.run(x.node(Check.SET, 2, x.node(Check.CELL, five, five, 0), 0), 10);
        due(check, x, 2, 2, 3, 1, 2);
        x.run(x.node(Check.SET, 3, x.node(Check.DUO, none, five, 0), 0), 10);
        due(check, x, 3, 3, 5, -1, 4);
        x.run(x.node(Check.SET, 4, x.node(Check.CELL, five, none, 0), 0), 10);
        due(check, x, 4, 2, 7, 6, -1);
        x.run(x.node(Check.SET, 5, x.node(Check.BOX, five, 0, 0), 0), 10);
        due(check, x, 5, 4, 9, 8, -1);
        x.run(x.node(Check.SET, 6, x.node(Check.BOX, none, 0, 0), 0), 10);
        due(check, x, 6, 4, 10, -1, -1);
        x.run(x.node(Check.SET, 7, x.node(Check.HOLD, five, 0, 0), 0), 10);
        due(check, x, 7, 6, 12, -1, -1);
        due(check, x, -1, 6, 12, -1, -1);
        due(check, x, 1, 1, 0, -1, -1);
    }

    private static void tellsRows(Check check) {
        FrameTalk x = new FrameTalk();
        int three = x.lit(3);
        for (int use = 0; use < 3; use++) {
            x.run(x.node(Check.ROW, use, three, 0), 10);
            due(check, x, -1, 5, 2 * use + 1, 3, use);
        }
        x.run(x.node(Check.ROW, 3, three, 0), 10);
        due(check, x, -1, 5, 7, -1, -1);
        x.run(x.node(Check.ROW, -1, three, 0), 10);
        due(check, x, -1, 5, 9, -1, -1);
        x.run(x.node(Check.ROW, 2, x.lit(0), 0), 10);
        due(check, x, -1, 5, 11, 0, 2);
    }

    private static void tellsNothing(Check check) {
        FrameTalk x = new FrameTalk();
        due(check, x, -1, 0, -1, -1, -1);
        due(check, x, 0, 0, -1, -1, -1);
        due(check, x, 255, 0, -1, -1, -1);
        int[] outside = {-2, 256, Integer.MIN_VALUE, Integer.MAX_VALUE};
        for (int i : outside) {
            due(check, x, i, -1, -1, -1, -1);
        }
        int five = x.lit(5);
        x.run(five, 1);
        x.run(five, 0);
        due(check, x, -1, 0, -1, -1, -1);
    }

    private static void tellsChanges(Check check) {
        FrameTalk x = new FrameTalk();
        int five = x.lit(5);
        x.run(x.node(Check.SET, 2, x.node(Check.DUO, five, five, 0), 0), 10);
        due(check, x, 2, 3, 2, 0, 1);
        int get = x.node(Check.GET, 2, 0, 0);
        x.run(x.node(Check.STORE, get, 0, get), 10);
        due(check, x, 2, 3, 2, 2, 1);
        due(check, x, -1, 3, 2, 2, 1);
        x.run(x.node(Check.STORE, get, 1, five), 10);
        due(check, x, 2, 3, 2, 2, 3);
        x.run(x.node(Check.STORE, get, -5, x.node(Check.GET, 9, 0, 0)), 10);
        due(check, x, 2, 3, 2, 2, -1);
    }
}
