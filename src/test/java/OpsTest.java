/** What each OP from 1 to 20 does, as the document's text block has it. */
public final class OpsTest extends Bench {
    private static final int NUM = 1;
    private static final int ROW_KIND = 5;

    public static void main(String[] args) {
        OpsTest test = new OpsTest();
        test.slots();
        test.making();
        test.fields();
        test.sides();
        test.sends();
        test.reckons();
        test.makesRows();
        test.putsAndReads();
        test.rowsAreFor();
        test.tries();
        test.raises();
        test.flow();
        test.looksFromTheLeft();
        test.check.end();
    }

    /** Every THING but the kinds that are asked for is a fault 3, nothing is a fault 1. */
    private void asksFor(String what, int op, int b, int... fit) {
        int[] all = {one, cell, duo, box, row, bare, faultThing};
        for (int thing : all) {
            boolean fits = false;
            for (int one : fit) {
                fits |= one == thing;
            }
            if (!fits) {
                dueFaultHere(what + " of NODE " + thing, x.node(op, thing, b, zero), 3);
            }
        }
        dueFaultHere(what + " of nothing", x.node(op, none, b, zero), 1);
    }

    private void slots() {
        fresh();
        check.dueKind("GET of an empty SLOT", x, x.node(Check.GET, 0, 0, 0), 0);
        int[] outside = {-1, 256, Integer.MIN_VALUE, Integer.MAX_VALUE};
        for (int slot : outside) {
            dueFaultHere("GET " + slot, x.node(Check.GET, slot, 0, 0), 2);
            dueFaultHere("SET " + slot, x.node(Check.SET, slot, one, 0), 2);
            check.due("STEPS of SET " + slot, x.steps(), 2);
        }
        check.dueFault("B's fault comes first", x, x.node(Check.SET, -1, bad, 0), 2, bad);
        check.dueValue("SET 255", x, x.node(Check.SET, 255, two, 0), 2);
        check.dueValue("GET 255", x, x.node(Check.GET, 255, 0, 0), 2);
        int number = x.thing(255, 1);
        x.run(x.node(Check.GET, 255, 0, 0), 1);
        check.due("GET gives the same THING", x.thing(-1, 1), number);
        check.dueKind("SET to nothing", x, x.node(Check.SET, 255, none, 0), 0);
        check.due("SLOT 255", x.thing(255, 0), 0);
    }

    private void making() {
        fresh();
        check.dueKind("CELL", x, cell, 2);
        check.due("THINGS are numbered as they are made", x.thing(-1, 1), 2);
        check.dueKind("DUO", x, duo, 3);
        check.due("first", x.thing(-1, 2), 3);
        check.due("second", x.thing(-1, 3), 4);
        check.dueKind("BOX", x, box, 4);
        check.due("FIELD", x.thing(-1, 2), 6);
        check.dueKind("CELL of nothing", x, x.node(Check.CELL, none, none, 0), 2);
        check.due("first of nothing", x.thing(-1, 2), -1);
        dueFaultHere("CELL without A", x.node(Check.CELL, -1, one, 0), 1);
        dueFaultHere("CELL without B", x.node(Check.CELL, one, -1, 0), 1);
        dueFaultHere("BOX without A", x.node(Check.BOX, -1, one, 0), 1);
    }

    private void fields() {
        fresh();
        check.dueValue("FIELD 0", x, x.node(Check.FIELD, cell, 0, 0), 1);
        check.dueValue("FIELD 1", x, x.node(Check.FIELD, cell, 1, 0), 2);
        check.dueValue("FIELD 7 of a DUO", x, x.node(Check.FIELD, duo, 7, 0), 2);
        check.dueValue("FIELD 0 of a DUO", x, x.node(Check.FIELD, duo, 0, 0), 1);
        asksFor("FIELD", Check.FIELD, 0, cell, duo);
        asksFor("STORE", Check.STORE, 1, cell, duo);
        x.run(x.node(Check.SET, 1, cell, 0), 10);
        int kept = x.node(Check.GET, 1, 0, 0);
        check.dueValue("STORE 0", x, x.node(Check.STORE, kept, 0, zero), 0);
        check.dueValue("first FIELD", x, x.node(Check.FIELD, kept, 0, 0), 0);
        check.dueValue("second FIELD is as before", x, x.node(Check.FIELD, kept, 1, 0), 2);
        check.dueValue("STORE 5", x, x.node(Check.STORE, kept, 5, one), 1);
        check.dueValue("second FIELD", x, x.node(Check.FIELD, kept, 1, 0), 1);
        check.dueKind("STORE of nothing", x, x.node(Check.STORE, kept, 0, none), 0);
        check.dueKind("first FIELD is empty", x, x.node(Check.FIELD, kept, 0, 0), 0);
        dueFaultHere("STORE without C", x.node(Check.STORE, kept, 0, -1), 1);
    }

    private void sides() {
        fresh();
        check.dueValue("LEFT", x, x.node(Check.LEFT, duo, 0, 0), 1);
        check.dueValue("RIGHT", x, x.node(Check.RIGHT, duo, 0, 0), 2);
        asksFor("LEFT", Check.LEFT, 0, duo);
        asksFor("RIGHT", Check.RIGHT, 0, duo);
    }

    private void sends() {
        fresh();
        asksFor("SEND 0", Check.SEND, 0, box);
        asksFor("SEND 9", Check.SEND, 9, box);
        x.run(x.node(Check.SET, 1, box, 0), 10);
        int kept = x.node(Check.GET, 1, 0, 0);
        int content = x.thing(1, 2);
        check.dueValue("SEND 0", x, x.node(Check.SEND, kept, 0, cell), 2);
        check.due("it gives the same THING", x.thing(-1, 1), content);
        dueFaultHere("SEND 0 without C", x.node(Check.SEND, kept, 0, -1), 1);
        int asked = x.node(Check.SEND, kept, 0, zero);
        check.dueValue("SEND 7 of the same THING", x, x.node(Check.SEND, kept, 7, asked), 1);
        check.dueValue("SEND 7 of an equal NUM", x, x.node(Check.SEND, kept, 7, two), 0);
        check.dueValue("SEND 7 of nothing", x, x.node(Check.SEND, kept, 7, none), 0);
        check.dueValue("SEND 1 gives what was there", x, x.node(Check.SEND, kept, 1, one), 2);
        check.dueValue("and the FIELD has the new one", x, asked, 1);
        check.dueValue("SEND 1 of nothing", x, x.node(Check.SEND, kept, 1, none), 1);
        check.dueKind("the FIELD is empty", x, asked, 0);
        check.dueValue("SEND 7: nothing and nothing", x, x.node(Check.SEND, kept, 7, none), 1);
        check.dueValue("SEND 7: nothing and a NUM", x, x.node(Check.SEND, kept, 7, one), 0);
        int[] others = {-1, 8, 100, Integer.MIN_VALUE, Integer.MAX_VALUE};
        for (int message : others) {
            check.dueValue("SEND " + message, x, x.node(Check.SEND, kept, message, none), 0);
            check.due("it is a NUM", x.thing(-1, 0), NUM);
        }
    }

    private void dueReckoned(long held, int message, long with, long want) {
        int node = x.node(Check.SEND, x.node(Check.BOX, x.lit(held), 0, 0), message, x.lit(with));
        check.dueValue(held + " SEND " + message + " with " + with, x, node, want);
    }

    private void reckons() {
        fresh();
        dueReckoned(-7, 2, 2, -5);
        dueReckoned(-7, 3, 2, -9);
        dueReckoned(-7, 4, 2, -14);
        dueReckoned(-7, 5, 2, -3);
        dueReckoned(-7, 6, 2, -1);
        dueReckoned(7, 5, -2, -3);
        dueReckoned(7, 6, -2, 1);
        dueReckoned(Long.MAX_VALUE, 2, 1, Long.MIN_VALUE);
        dueReckoned(Long.MIN_VALUE, 3, 1, Long.MAX_VALUE);
        dueReckoned(Long.MIN_VALUE, 4, -1, Long.MIN_VALUE);
        dueReckoned(Long.MIN_VALUE, 5, -1, Long.MIN_VALUE);
        dueReckoned(Long.MIN_VALUE, 6, -1, 0);
        dueReckoned(3, 4, 0, 0);
        int empty = x.node(Check.BOX, none, 0, 0);
        int other = x.node(Check.BOX, cell, 0, 0);
        for (int message = 2; message <= 6; message++) {
            dueFaultHere("empty FIELD", x.node(Check.SEND, empty, message, cell), 1);
            dueFaultHere("FIELD is a CELL", x.node(Check.SEND, other, message, none), 3);
            dueFaultHere("C is nothing", x.node(Check.SEND, box, message, none), 1);
            dueFaultHere("C is a FAULT", x.node(Check.SEND, box, message, faultThing), 3);
        }
        dueFaultHere("/ 0", x.node(Check.SEND, box, 5, zero), 6);
        dueFaultHere("what / 0 leaves", x.node(Check.SEND, box, 6, zero), 6);
        dueFaultHere("the FIELD is looked at ahead of C's 0", x.node(Check.SEND, other, 5, zero), 3);
    }

    private void makesRows() {
        fresh();
        int[] uses = {0, 1, 2, 3, -1};
        for (int use : uses) {
            dueFaultHere("ROW of nothing", x.node(Check.ROW, use, none, 0), 1);
            dueFaultHere("ROW of a FAULT", x.node(Check.ROW, use, faultThing, 0), 3);
            dueFaultHere("ROW without B", x.node(Check.ROW, use, -1, 0), 1);
        }
        int made = x.node(Check.ROW, 2, x.lit((1L << 32) + 3), 0);
        check.dueKind("ROW of 2^32 + 3", x, made, ROW_KIND);
        check.due("its PLACES", x.thing(-1, 2), 3);
        dueFaultHere("ROW of 2^31", x.node(Check.ROW, 0, x.lit(1L << 31), 0), 5);
        dueFaultHere("ROW of -1", x.node(Check.ROW, 1, x.lit(-1), 0), 5);
        dueFaultHere("ROW of 20001", x.node(Check.ROW, 0, x.lit(20001), 0), 8);
        dueFaultHere("ROW of 2^31 - 1", x.node(Check.ROW, 0, x.lit(Integer.MAX_VALUE), 0), 8);
        check.dueKind("ROW without any of -1", x, x.node(Check.ROW, 3, x.lit(-1), 0), ROW_KIND);
        check.dueKind("ROW without any of 30000", x, x.node(Check.ROW, -1, x.lit(30000), 0), ROW_KIND);
        int number = x.thing(-1, 1);
        x.run(x.node(Check.ROW, 0, x.lit(20001), 0), 10);
        x.run(zero, 1);
        check.due("a refused ROW has no number", x.thing(-1, 1), number + 2);
        dueFaultHere("3 are used", x.node(Check.ROW, 0, x.lit(19998), 0), 8);
        check.dueKind("all others", x, x.node(Check.ROW, 0, x.lit(19997), 0), ROW_KIND);
        dueFaultHere("none is left", x.node(Check.ROW, 0, one, 0), 8);
        check.dueValue("0 are left", x, x.node(Check.SIZE, x.node(Check.ROW, 0, zero, 0), 0, 0), 0);
    }

    private void putsAndReads() {
        fresh();
        asksFor("PUT", Check.PUT, zero, row, bare);
        asksFor("AT", Check.AT, zero, row, bare);
        asksFor("SIZE", Check.SIZE, 0, row, bare);
        check.dueValue("SIZE", x, x.node(Check.SIZE, row, 0, 0), 2);
        dueFaultHere("SIZE without PLACES", x.node(Check.SIZE, bare, 0, 0), 1);
        dueFaultHere("PUT without PLACES", x.node(Check.PUT, bare, two, one), 1);
        dueFaultHere("AT without PLACES", x.node(Check.AT, bare, zero, 0), 1);
        dueFaultHere("B is looked at ahead of that", x.node(Check.AT, bare, cell, 0), 3);
        x.run(x.node(Check.SET, 1, row, 0), 10);
        int kept = x.node(Check.GET, 1, 0, 0);
        check.dueKind("AT at first", x, x.node(Check.AT, kept, one, 0), 0);
        check.dueValue("PUT", x, x.node(Check.PUT, kept, one, two), 2);
        check.dueValue("AT", x, x.node(Check.AT, kept, one, 0), 2);
        check.dueKind("the other PLACE", x, x.node(Check.AT, kept, zero, 0), 0);
        check.dueValue("AT 2^32 + 1", x, x.node(Check.AT, kept, x.lit((1L << 32) + 1), 0), 2);
        check.dueKind("PUT of nothing", x, x.node(Check.PUT, kept, one, none), 0);
        check.dueKind("AT behind it", x, x.node(Check.AT, kept, one, 0), 0);
        long[] outside = {-1, 2, Integer.MIN_VALUE, Integer.MAX_VALUE, Long.MIN_VALUE + 2};
        for (long place : outside) {
            dueFaultHere("PUT " + place, x.node(Check.PUT, kept, x.lit(place), one), 2);
            dueFaultHere("AT " + place, x.node(Check.AT, kept, x.lit(place), 0), 2);
        }
        int empty = x.node(Check.ROW, 0, zero, 0);
        dueFaultHere("AT of a ROW with 0 PLACES", x.node(Check.AT, empty, zero, 0), 2);
        dueFaultHere("PUT without C", x.node(Check.PUT, kept, zero, -1), 1);
    }

    private void rowsAreFor() {
        fresh();
        int[] things = {none, one, cell, duo, box, row, faultThing};
        boolean[] areCells = {true, false, true, true, false, false, false};
        boolean[] areDuos = {true, false, false, true, false, false, false};
        int cells = x.node(Check.ROW, 1, one, 0);
        int duos = x.node(Check.ROW, 2, one, 0);
        for (int i = 0; i < things.length; i++) {
            duePut("ROW for all", row, things[i], true);
            duePut("ROW for CELLS", cells, things[i], areCells[i]);
            duePut("ROW for DUOS", duos, things[i], areDuos[i]);
        }
        dueFaultHere("the PLACE is looked at first", x.node(Check.PUT, duos, two, one), 2);
    }

    private void duePut(String what, int into, int thing, boolean fits) {
        int node = x.node(Check.PUT, into, zero, thing);
        if (fits) {
            check.due(what + " takes NODE " + thing, x.run(node, 100), 0);
        } else {
            dueFaultHere(what + " doesn't take NODE " + thing, node, 4);
        }
    }

    private void tries() {
        fresh();
        int deep = x.node(Check.BOX, bad, 0, 0);
        check.dueValue("no fault", x, x.node(Check.TRY, two, 0, bad), 2);
        check.due("SLOT 0", x.thing(0, 0), 0);
        check.dueKind("nothing is no fault", x, x.node(Check.TRY, none, 0, bad), 0);
        check.dueValue("any fault", x, x.node(Check.TRY, deep, 0, one), 1);
        check.due("SLOT 0", x.value(0), 2);
        check.due("it is a NUM", x.thing(0, 0), NUM);
        check.due("made ahead of C's", x.thing(0, 1), x.thing(-1, 1) - 1);
        check.dueValue("C sees SLOT 0", x, x.node(Check.TRY, deep, 2, x.node(Check.GET, 0, 0, 0)), 2);
        x.run(x.node(Check.SET, 0, zero, 0), 10);
        int[] others = {1, 3, 8, -1, 9, -2, Integer.MIN_VALUE};
        for (int kind : others) {
            check.dueFault("TRY " + kind, x, x.node(Check.TRY, deep, kind, one), 2, bad);
            check.due("SLOT 0 is as before", x.value(0), 0);
        }
        check.dueValue("A is nothing", x, x.node(Check.TRY, -1, 1, two), 2);
        check.due("SLOT 0", x.value(0), 1);
        dueFaultHere("A is nothing, another kind", x.node(Check.TRY, -1, 2, two), 1);
        dueFaultHere("C is nothing", x.node(Check.TRY, bad, 0, -1), 1);
        check.due("SLOT 0 of the fault in A", x.value(0), 2);
        int field = x.node(Check.FIELD, one, 0, 0);
        int inner = x.node(Check.TRY, bad, 0, field);
        check.dueFault("a fault in C goes outward", x, inner, 3, field);
        check.dueValue("and is taken there", x, x.node(Check.TRY, inner, 3, two), 2);
        check.due("SLOT 0", x.value(0), 3);
        int passed = x.node(Check.TRY, x.node(Check.TRY, bad, 5, one), 2, two);
        check.dueValue("the nearest that takes it", x, passed, 2);
        int done = x.node(Check.SEQ, x.node(Check.SET, 7, two, 0), bad, 0);
        check.dueValue("what was done", x, x.node(Check.TRY, done, 0, one), 1);
        check.due("stays done", x.value(7), 2);
    }

    private void raises() {
        fresh();
        int set = x.node(Check.SET, 4, two, 0);
        int raise = x.node(Check.RAISE, set, 0, 0);
        dueFaultHere("RAISE, none is HELD", raise, 1);
        check.due("A was worked", x.value(4), 2);
        dueFaultHere("RAISE without A", x.node(Check.RAISE, -1, 0, 0), 1);
        asksFor("HOLD", Check.HOLD, 0, one);
        // asksFor worked HOLD NODES, so that one is HELD from here on.
        dueFaultHere("RAISE of the HELD one", raise, 7);
        dueFaultHere("RAISE again: it is HELD still", raise, 7);
        check.dueValue("HOLD gives it", x, faultThing, 2);
        check.due("a FAULT", x.thing(-1, 0), 6);
        check.dueValue("TRY 7 takes it", x, x.node(Check.TRY, raise, 7, one), 1);
        check.due("SLOT 0", x.value(0), 7);
        dueFaultHere("RAISE without A, one is HELD", x.node(Check.RAISE, -1, 0, 0), 1);
        fresh();
        int both = x.node(Check.RAISE, faultThing, 0, 0);
        dueFaultHere("RAISE of what its A holds", both, 7);
    }

    private void flow() {
        fresh();
        check.dueValue("SEQ", x, x.node(Check.SEQ, one, two, 0), 2);
        check.dueKind("SEQ gives nothing", x, x.node(Check.SEQ, one, none, 0), 0);
        check.dueFault("SEQ ends by A's fault", x, x.node(Check.SEQ, bad, two, 0), 2, bad);
        dueFaultHere("SEQ without A", x.node(Check.SEQ, -1, two, 0), 1);
        dueFaultHere("SEQ without B", x.node(Check.SEQ, one, -1, 0), 1);
        check.dueValue("IF 2", x, x.node(Check.IF, two, one, -1), 1);
        check.dueValue("IF 0", x, x.node(Check.IF, zero, -1, two), 2);
        check.dueValue("IF 2^32", x, x.node(Check.IF, x.lit(1L << 32), one, two), 1);
        check.dueValue("IF -1", x, x.node(Check.IF, x.lit(-1), one, two), 1);
        dueFaultHere("IF without B", x.node(Check.IF, one, -1, two), 1);
        dueFaultHere("IF without C", x.node(Check.IF, zero, two, -1), 1);
        asksFor("IF", Check.IF, zero, one);
        asksFor("TIMES", Check.TIMES, zero, one);
        check.dueValue("TIMES 2", x, x.node(Check.TIMES, two, one, 0), 1);
        check.due("its STEPS", x.steps(), 4);
        long[] never = {0, -1, Long.MIN_VALUE};
        for (long times : never) {
            check.dueKind("TIMES " + times, x, x.node(Check.TIMES, x.lit(times), -1, 0), 0);
        }
        dueFaultHere("TIMES without B", x.node(Check.TIMES, one, -1, 0), 1);
        check.dueFault("TIMES ends by B's fault", x, x.node(Check.TIMES, two, bad, 0), 2, bad);
        check.due("TIMES 2^40", x.run(x.node(Check.TIMES, x.lit(1L << 40), one, 0), 100), -1);
        countsUp();
    }

    private void countsUp() {
        x.run(x.node(Check.SET, 1, x.node(Check.BOX, zero, 0, 0), 0), 10);
        int kept = x.node(Check.GET, 1, 0, 0);
        int next = x.node(Check.SEND, kept, 2, one);
        int count = x.node(Check.SEND, kept, 1, next);
        check.dueValue("TIMES 10 gives the last one's", x, x.node(Check.TIMES, x.lit(10), count, 0), 9);
        check.dueValue("what it counted", x, x.node(Check.SEND, kept, 0, zero), 10);
        int inner = x.node(Check.TIMES, two, count, 0);
        x.run(x.node(Check.TIMES, x.lit(3), inner, 0), 1000);
        check.dueValue("TIMES in TIMES", x, x.node(Check.SEND, kept, 0, zero), 16);
    }

    private void looksFromTheLeft() {
        fresh();
        dueFaultHere("A nothing, B a CELL", x.node(Check.AT, none, cell, 0), 1);
        dueFaultHere("A a CELL, B nothing", x.node(Check.AT, cell, none, 0), 3);
        dueFaultHere("A a ROW, B nothing", x.node(Check.AT, row, none, 0), 1);
        dueFaultHere("A a ROW, B a FAULT", x.node(Check.AT, row, faultThing, 0), 3);
        check.dueFault("all are worked ahead of that", x, x.node(Check.PUT, none, cell, bad), 2, bad);
        int first = x.node(Check.SET, 1, one, 0);
        int second = x.node(Check.SET, 1, two, 0);
        x.run(x.node(Check.CELL, first, second, 0), 10);
        check.due("A is worked ahead of B", x.value(1), 2);
        x.run(x.node(Check.STORE, x.node(Check.SEQ, second, cell, 0), 0, first), 20);
        check.due("A is worked ahead of C", x.value(1), 1);
    }
}
