/**
 * A test for each sentence on the OPs 1 (GET) to 10 (SEND) that names a boundary case. The sentence
 * stands above its test.
 */
public final class ThingOpsBoundsTest extends Bench {
    private static final int[] NO_SLOTS = {-1, 256, Integer.MIN_VALUE, Integer.MAX_VALUE};
    private static final int[] NOT_ZERO = {-1, 1, 2, Integer.MIN_VALUE, Integer.MAX_VALUE};

    public static void main(String[] args) {
        ThingOpsBoundsTest test = new ThingOpsBoundsTest();
        test.getOutside();
        test.setOutside();
        test.setNothing();
        test.makesNewOnes();
        test.fieldByB();
        test.fieldAsksForACell();
        test.storeByB();
        test.storeAsksForACell();
        test.sidesAskForADuo();
        test.sendAsksForABox();
        test.sendZero();
        test.sendOne();
        test.sendTwoToSix();
        test.cutsOffTowardsZero();
        test.wrapsAround();
        test.dividesByZero();
        test.sendSeven();
        test.sendAnother();
        test.check.end();
    }

    // "1 GET a: what is in SLOT a; no such SLOT: fault 2."
    private void getOutside() {
        fresh();
        int first = keep(0, one);
        int last = keep(255, two);
        check.dueValue("GET 0", x, first, 1);
        check.dueValue("GET 255", x, last, 2);
        check.due("the same THING", x.thing(-1, 1), x.thing(255, 1));
        for (int slot : NO_SLOTS) {
            dueRefused("GET " + slot, x.node(Check.GET, slot, 0, 0), 2, 0);
        }
        check.due("SLOT 0 is as it was", x.value(0), 1);
        check.due("SLOT 255 is as it was", x.value(255), 2);
    }

    // "2 SET a, B: SLOT a (2 likewise) gets what B gave; gives that."
    private void setOutside() {
        fresh();
        int set = x.node(Check.SET, 0, two, 0);
        for (int slot : NO_SLOTS) {
            x.part(set, 0, slot);
            dueRefused("SET " + slot, set, 2, 1);
            dueRun("B was worked", set, 2, 3, 2);
        }
        for (int slot = 0; slot < 256; slot++) {
            check.due("SLOT " + slot + " has nothing still", x.thing(slot, 0), 0);
        }
        for (int slot = 0; slot < 256; slot += 255) {
            x.part(set, 0, slot);
            check.dueValue("SET " + slot, x, set, 2);
            check.due("it gives what the SLOT got", x.thing(slot, 1), x.thing(-1, 1));
        }
    }

    // "gets what B gave; gives that": nothing, too
    private void setNothing() {
        fresh();
        keep(255, two);
        check.dueKind("SET to nothing", x, x.node(Check.SET, 255, none, 0), 0);
        check.due("SLOT 255 is empty", x.thing(255, 0), 0);
        check.due("its VALUE", x.value(255), 0);
    }

    // "3 CELL A, B, 4 DUO A, B, 5 BOX A: a new one with what they gave in its FIELDS."
    private void makesNewOnes() {
        fresh();
        int[] empty = {
            x.node(Check.CELL, none, none, 0), x.node(Check.DUO, none, none, 0), x.node(Check.BOX, none, 0, 0)
        };
        for (int i = 0; i < empty.length; i++) {
            int number = nextNumber();
            check.dueKind("one of nothing", x, empty[i], 2 + i);
            check.due("a new one", x.thing(-1, 1), number + 1);
            check.due("its first FIELD", x.thing(-1, 2), -1);
            check.due("its second FIELD", x.thing(-1, 3), -1);
            check.dueKind("another of nothing", x, empty[i], 2 + i);
            check.due("a new one again", x.thing(-1, 1), number + 2);
        }
        int half = x.node(Check.CELL, none, one, 0);
        int number = nextNumber();
        check.dueKind("nothing in the first FIELD alone", x, half, 2);
        check.due("its first FIELD", x.thing(-1, 2), -1);
        check.due("its second FIELD", x.thing(-1, 3), number + 1);
        int[] broken = {x.node(Check.CELL, one, bad, 0), x.node(Check.DUO, one, bad, 0), x.node(Check.BOX, bad, 0, 0)};
        for (int i = 0; i < broken.length; i++) {
            number = nextNumber();
            check.dueFault("a fault in a PART", x, broken[i], 2, bad);
            check.due("none was made but the PART's", nextNumber(), number + (i < 2 ? 2 : 1));
        }
    }

    // "6 FIELD A, b (A: CELL): its first FIELD, if b is 0, else the second."
    private void fieldByB() {
        fresh();
        check.dueValue("FIELD 0", x, x.node(Check.FIELD, cell, 0, 0), 1);
        for (int b : NOT_ZERO) {
            check.dueValue("FIELD " + b, x, x.node(Check.FIELD, cell, b, 0), 2);
        }
        check.dueKind("an empty FIELD", x, x.node(Check.FIELD, x.node(Check.CELL, none, one, 0), 0, 0), 0);
    }

    /** With each THING of another kind the OP is a fault 3, with nothing a fault 1; no THING is made by it. */
    private void dueAsked(String what, int op, int b, int[] others) {
        int changed = x.node(op, one, b, one);
        for (int other : others) {
            x.part(changed, 0, other);
            dueFaultHere(what + " of NODE " + other, changed, 3);
        }
        x.part(changed, 0, none);
        dueRefused(what + " of nothing", changed, 1, op == Check.STORE || op == Check.SEND ? 1 : 0);
    }

    // "(A: CELL)" of FIELD
    private void fieldAsksForACell() {
        fresh();
        int[] others = {one, box, row, bare, faultThing};
        for (int b = 0; b <= 1; b++) {
            dueAsked("FIELD " + b, Check.FIELD, b, others);
            check.due("FIELD " + b + " of a CELL", x.run(x.node(Check.FIELD, cell, b, 0), 10), 0);
            check.due("FIELD " + b + " of a DUO", x.run(x.node(Check.FIELD, duo, b, 0), 10), 0);
        }
    }

    private void dueFields(String what, int kept, long first, long second) {
        check.dueValue(what + ", first FIELD", x, x.node(Check.FIELD, kept, 0, 0), first);
        check.dueValue(what + ", second FIELD", x, x.node(Check.FIELD, kept, 1, 0), second);
    }

    // "7 STORE A, b, C (A: CELL): that FIELD gets what C gave; gives that."
    private void storeByB() {
        fresh();
        int kept = keep(1, cell);
        check.dueValue("STORE 0", x, x.node(Check.STORE, kept, 0, x.lit(50)), 50);
        check.due("it gives what the FIELD got", x.thing(1, 2), x.thing(-1, 1));
        dueFields("STORE 0", kept, 50, 2);
        for (int i = 0; i < NOT_ZERO.length; i++) {
            check.dueValue("STORE " + NOT_ZERO[i], x, x.node(Check.STORE, kept, NOT_ZERO[i], x.lit(60 + i)), 60 + i);
            dueFields("STORE " + NOT_ZERO[i], kept, 50, 60 + i);
        }
        check.dueKind("STORE 1 of nothing", x, x.node(Check.STORE, kept, 1, none), 0);
        check.due("the second FIELD is empty", x.thing(1, 3), -1);
        check.due("the first is not", x.thing(1, 2) >= 0 ? 1 : 0, 1);
        check.dueKind("STORE 0 of itself", x, x.node(Check.STORE, kept, 0, kept), 2);
        check.due("the first FIELD is itself", x.thing(1, 2), x.thing(1, 1));
    }

    // "(A: CELL)" of STORE
    private void storeAsksForACell() {
        fresh();
        int keptBox = keep(1, box);
        int inBox = x.thing(1, 2);
        for (int b = 0; b <= 1; b++) {
            dueAsked("STORE " + b, Check.STORE, b, new int[] {one, keptBox, row, bare, faultThing});
        }
        check.due("the BOX is as it was", x.thing(1, 2), inBox);
        int kept = keep(2, duo);
        int broken = x.node(Check.STORE, kept, 0, bad);
        check.dueFault("a fault in C", x, broken, 2, bad);
        dueFields("behind it", kept, 1, 2);
        check.dueValue("STORE to a DUO", x, x.node(Check.STORE, kept, 1, zero), 0);
        dueFields("behind STORE", kept, 1, 0);
    }

    // "8 LEFT A, 9 RIGHT A (A: DUO): the first, the second FIELD."
    private void sidesAskForADuo() {
        fresh();
        int[] others = {one, cell, box, row, bare, faultThing};
        dueAsked("LEFT", Check.LEFT, 0, others);
        dueAsked("RIGHT", Check.RIGHT, 0, others);
        check.dueValue("LEFT", x, x.node(Check.LEFT, duo, 1, 0), 1);
        check.dueValue("RIGHT", x, x.node(Check.RIGHT, duo, 0, 0), 2);
        int half = x.node(Check.DUO, none, one, 0);
        check.dueKind("LEFT, an empty FIELD", x, x.node(Check.LEFT, half, 0, 0), 0);
        check.dueValue("RIGHT of the same", x, x.node(Check.RIGHT, half, 0, 0), 1);
    }

    // "10 SEND A, b, C (A: BOX)"
    private void sendAsksForABox() {
        for (int b = -1; b <= 8; b++) {
            fresh();
            dueAsked("SEND " + b, Check.SEND, b, new int[] {one, cell, duo, row, bare, faultThing});
            check.due("SEND " + b + " of a BOX", x.run(x.node(Check.SEND, box, b, one), 10), 0);
        }
    }

    // "b 0: what is in its FIELD"
    private void sendZero() {
        fresh();
        int kept = keep(1, box);
        int[] cs = {none, one, cell, kept};
        for (int c : cs) {
            check.dueValue("SEND 0", x, x.node(Check.SEND, kept, 0, c), 2);
            check.due("the same THING", x.thing(-1, 1), x.thing(1, 2));
        }
        check.dueKind("SEND 0 of an empty BOX", x, x.node(Check.SEND, x.node(Check.BOX, none, 0, 0), 0, one), 0);
    }

    // "1: its FIELD gets what C gave; gives what was there"
    private void sendOne() {
        fresh();
        int kept = keep(1, x.node(Check.BOX, none, 0, 0));
        check.dueKind("what was there: nothing", x, x.node(Check.SEND, kept, 1, cell), 0);
        int number = x.thing(1, 2);
        check.dueKind("what was there: a CELL", x, x.node(Check.SEND, kept, 1, kept), 2);
        check.due("the same THING", x.thing(-1, 1), number);
        check.due("the FIELD has the BOX itself", x.thing(1, 2), x.thing(1, 1));
        check.dueKind("what was there: the BOX", x, x.node(Check.SEND, kept, 1, none), 4);
        check.due("the FIELD is empty", x.thing(1, 2), -1);
        keep(2, kept);
        check.dueFault("a fault in C", x, x.node(Check.SEND, kept, 1, bad), 2, bad);
        check.due("the FIELD is empty still", x.thing(2, 2), -1);
    }

    // "2 to 6 (FIELD: NUM, C: NUM): a new NUM"
    private void sendTwoToSix() {
        for (int b = 2; b <= 6; b++) {
            fresh();
            int kept = keep(1, box);
            int inside = x.thing(1, 2);
            int number = nextNumber();
            check.dueKind("SEND " + b, x, x.node(Check.SEND, kept, b, two), 1);
            check.due("a new NUM", x.thing(-1, 1), number + 2);
            check.due("the BOX is as it was", x.thing(1, 2), inside);
            int empty = keep(2, x.node(Check.BOX, none, 0, 0));
            int other = keep(3, x.node(Check.BOX, cell, 0, 0));
            int faulty = keep(4, x.node(Check.BOX, faultThing, 0, 0));
            dueRefused(b + ": FIELD nothing, C nothing", x.node(Check.SEND, empty, b, none), 1, 0);
            dueRefused(b + ": FIELD nothing, C another", x.node(Check.SEND, empty, b, kept), 1, 0);
            dueRefused(b + ": FIELD nothing, C a 0", x.node(Check.SEND, empty, b, zero), 1, 1);
            dueRefused(b + ": FIELD another, C nothing", x.node(Check.SEND, other, b, none), 3, 0);
            dueRefused(b + ": FIELD another, C a 0", x.node(Check.SEND, other, b, zero), 3, 1);
            dueRefused(b + ": FIELD a FAULT", x.node(Check.SEND, faulty, b, two), 3, 1);
            dueRefused(b + ": FIELD a NUM, C nothing", x.node(Check.SEND, kept, b, none), 1, 0);
            dueRefused(b + ": FIELD a NUM, C another", x.node(Check.SEND, kept, b, kept), 3, 0);
            check.due("the BOX is as it was behind them", x.thing(1, 2), inside);
        }
        fresh();
        int other = x.node(Check.BOX, cell, 0, 0);
        check.due("1, the last below them, asks for no NUM", x.run(x.node(Check.SEND, other, 1, none), 20), 0);
        check.due("7, the first above them, neither", x.run(x.node(Check.SEND, other, 7, none), 20), 0);
    }

    private void dueReckoned(long held, int b, long with, long want) {
        int node = x.node(Check.SEND, x.node(Check.BOX, x.lit(held), 0, 0), b, x.lit(with));
        check.dueValue(held + " SEND " + b + " with " + with, x, node, want);
    }

    // "/ C cut off towards 0, what that leaves"
    private void cutsOffTowardsZero() {
        fresh();
        dueReckoned(7, 5, 2, 3);
        dueReckoned(-7, 5, 2, -3);
        dueReckoned(7, 5, -2, -3);
        dueReckoned(-7, 5, -2, 3);
        dueReckoned(1, 5, 2, 0);
        dueReckoned(-1, 5, 2, 0);
        dueReckoned(7, 6, 2, 1);
        dueReckoned(-7, 6, 2, -1);
        dueReckoned(7, 6, -2, 1);
        dueReckoned(-7, 6, -2, -1);
        dueReckoned(-8, 6, 2, 0);
    }

    // "(all modulo 2^64, signed"
    private void wrapsAround() {
        fresh();
        long most = Long.MAX_VALUE;
        long least = Long.MIN_VALUE;
        dueReckoned(most - 1, 2, 1, most);
        dueReckoned(most, 2, 1, least);
        dueReckoned(least + 1, 2, -1, least);
        dueReckoned(least, 2, -1, most);
        dueReckoned(least, 2, least, 0);
        dueReckoned(least + 1, 3, 1, least);
        dueReckoned(least, 3, 1, most);
        dueReckoned(most, 3, -1, least);
        dueReckoned(0, 3, least, least);
        dueReckoned(1L << 31, 4, 1L << 31, 1L << 62);
        dueReckoned(1L << 32, 4, 1L << 31, least);
        dueReckoned(1L << 32, 4, 1L << 32, 0);
        dueReckoned(most, 4, 2, -2);
        dueReckoned(least, 4, -1, least);
        dueReckoned(least, 5, 1, least);
        dueReckoned(least, 5, -1, least);
        dueReckoned(least + 1, 5, -1, most);
        dueReckoned(least, 6, -1, 0);
        dueReckoned(least, 6, most, -1);
        dueReckoned(1L << 32, 5, 1L << 32, 1);
    }

    // "C is 0 by the last two: fault 6)"
    private void dividesByZero() {
        fresh();
        int kept = keep(1, box);
        int inside = x.thing(1, 2);
        check.dueValue("+ 0", x, x.node(Check.SEND, kept, 2, zero), 2);
        check.dueValue("- 0", x, x.node(Check.SEND, kept, 3, zero), 2);
        check.dueValue("* 0", x, x.node(Check.SEND, kept, 4, zero), 0);
        dueRefused("/ 0", x.node(Check.SEND, kept, 5, zero), 6, 1);
        dueRefused("what / 0 leaves", x.node(Check.SEND, kept, 6, zero), 6, 1);
        check.due("the BOX is as it was", x.thing(1, 2), inside);
        dueReckoned(2, 5, 1, 2);
        dueReckoned(2, 5, -1, -2);
        dueReckoned(0, 5, 5, 0);
        dueReckoned(5, 5, 1L << 32, 0);
        int zeroBox = x.node(Check.BOX, zero, 0, 0);
        dueFaultHere("0 / 0", x.node(Check.SEND, zeroBox, 5, zero), 6);
        dueFaultHere("what 0 / 0 leaves", x.node(Check.SEND, zeroBox, 6, zero), 6);
    }

    private void dueSame(String what, int kept, int c, long want) {
        check.dueValue(what, x, x.node(Check.SEND, kept, 7, c), want);
        check.due(what + " (a NUM)", x.thing(-1, 0), 1);
    }

    // "7: a new NUM, 1 if the FIELD has what C gave (the same THING, or nothing), else 0"
    private void sendSeven() {
        fresh();
        int kept = keep(1, box);
        int inside = x.node(Check.SEND, kept, 0, zero);
        int number = nextNumber();
        dueSame("the same THING", kept, inside, 1);
        check.due("a new NUM", x.thing(-1, 1), number + 2);
        dueSame("an equal NUM", kept, two, 0);
        dueSame("a THING and nothing", kept, none, 0);
        int empty = keep(2, x.node(Check.BOX, none, 0, 0));
        dueSame("nothing and nothing", empty, none, 1);
        dueSame("nothing and a NUM 0", empty, zero, 0);
        int fault = keep(3, faultThing);
        int holds = keep(4, x.node(Check.BOX, fault, 0, 0));
        dueSame("the same FAULT", holds, fault, 1);
        dueSame("another FAULT with its VALUE", holds, faultThing, 0);
        x.run(x.node(Check.SEND, kept, 1, kept), 10);
        dueSame("the BOX in itself", kept, kept, 1);
        check.due("it is there still", x.thing(1, 2), x.thing(1, 1));
    }

    // "another b: a new NUM 0."
    private void sendAnother() {
        fresh();
        int kept = keep(1, box);
        int inside = x.thing(1, 2);
        int empty = keep(2, x.node(Check.BOX, none, 0, 0));
        for (int b : new int[] {-1, 8, Integer.MIN_VALUE, Integer.MAX_VALUE}) {
            int number = nextNumber();
            check.dueValue("SEND " + b, x, x.node(Check.SEND, kept, b, two), 0);
            check.due("a new one", x.thing(-1, 1), number + 2);
            check.due("a NUM", x.thing(-1, 0), 1);
            check.dueValue("SEND " + b + ", nothing and nothing", x, x.node(Check.SEND, empty, b, none), 0);
            check.due("a NUM", x.thing(-1, 0), 1);
        }
        check.due("the BOX is as it was", x.thing(1, 2), inside);
        check.due("so is the empty one", x.thing(2, 2), -1);
    }
}
