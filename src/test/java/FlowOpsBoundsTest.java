/**
 * A test for each sentence on the OPs 15 (TRY) to 20 (TIMES) that names a boundary case. The sentence
 * stands above its test.
 */
public final class FlowOpsBoundsTest extends Bench {
    private static final int[] NO_KINDS = {-1, 9, Integer.MIN_VALUE, Integer.MAX_VALUE};

    public static void main(String[] args) {
        FlowOpsBoundsTest test = new FlowOpsBoundsTest();
        test.tryWithoutAFault();
        test.tryOfNothing();
        test.tryByKind();
        test.tryGivesC();
        test.faultInC();
        test.raiseWorksA();
        test.raiseWithNoneHeld();
        test.holdAsksForANum();
        test.holdIsNew();
        test.seqGivesB();
        test.ifByValue();
        test.ifAsksForANum();
        test.timesByValue();
        test.timesAsksForANum();
        test.timesGivesTheLast();
        test.check.end();
    }

    /** A NODE that is a fault of each kind from 1 on, at itself. */
    private int[] faultyNodes() {
        int self = x.node(Check.BOX, one, 0, 0);
        x.part(self, 0, self);
        return new int[] {
            x.node(Check.FIELD, none, 0, 0), x.node(Check.GET, -1, 0, 0), x.node(Check.FIELD, zero, 0, 0),
            x.node(Check.PUT, x.node(Check.ROW, 2, one, 0), zero, cell), x.node(Check.ROW, 0, x.lit(-1), 0),
            x.node(Check.SEND, box, 5, zero), self, x.node(Check.ROW, 0, x.lit(20001), 0)
        };
    }

    // "15 TRY A, b, C: A": without a fault in it C isn't worked, and SLOT 0 isn't touched
    private void tryWithoutAFault() {
        fresh();
        keep(0, cell);
        int number = x.thing(0, 1);
        int mark = x.node(Check.SET, 1, one, 0);
        for (int b = -1; b <= 9; b++) {
            check.dueValue("TRY " + b, x, x.node(Check.TRY, two, b, mark), 2);
            check.dueKind("TRY " + b + ", A gives nothing", x, x.node(Check.TRY, none, b, mark), 0);
            check.dueKind("TRY " + b + ", A gives a FAULT", x, x.node(Check.TRY, faultThing, b, mark), 6);
        }
        check.due("C wasn't worked", x.thing(1, 0), 0);
        check.due("SLOT 0 is as it was", x.thing(0, 1), number);
    }

    // "of a fault in it (also that A is nothing)"
    private void tryOfNothing() {
        fresh();
        check.dueValue("TRY 0 of nothing", x, x.node(Check.TRY, -1, 0, two), 2);
        check.due("SLOT 0", x.value(0), 1);
        dueRun("TRY 1 of nothing", x.node(Check.TRY, -1, 1, two), 2, 0, 2);
        keep(0, none);
        for (int b : new int[] {-1, 2, 3, Integer.MIN_VALUE}) {
            dueFaultHere("TRY " + b + " of nothing", x.node(Check.TRY, -1, b, two), 1);
            check.due("SLOT 0 is as it was", x.thing(0, 0), 0);
        }
        dueFaultHere("A and C are nothing", x.node(Check.TRY, -1, 0, -1), 1);
        check.due("SLOT 0 got the kind of the first", x.value(0), 1);
    }

    // "of kind b (b 0: any)"
    private void tryByKind() {
        fresh();
        int[] faulty = faultyNodes();
        int taken = x.node(Check.TRY, one, 0, two);
        for (int i = 0; i < faulty.length; i++) {
            int kind = i + 1;
            x.part(taken, 0, faulty[i]);
            for (int b = 0; b <= kind; b += kind) {
                x.part(taken, 1, b);
                check.dueValue("TRY " + b + " of kind " + kind, x, taken, 2);
                check.due("SLOT 0", x.value(0), kind);
            }
            for (int b = kind - 1; b <= kind + 1; b += 2) {
                if (b != 0) {
                    dueNotTaken(taken, b, kind, faulty[i]);
                }
            }
        }
        x.part(taken, 0, bad);
        for (int b : NO_KINDS) {
            dueNotTaken(taken, b, 2, bad);
        }
    }

    private void dueNotTaken(int taken, int b, int kind, int at) {
        x.part(taken, 1, b);
        keep(0, none);
        check.dueFault("TRY " + b + " of kind " + kind, x, taken, kind, at);
        check.due("SLOT 0 is as it was", x.thing(0, 0), 0);
    }

    // "SLOT 0 gets a new NUM, its kind, and C is worked and given"
    private void tryGivesC() {
        fresh();
        keep(0, cell);
        int number = nextNumber();
        check.dueValue("C", x, x.node(Check.TRY, bad, 0, two), 2);
        check.due("SLOT 0 has a NUM", x.thing(0, 0), 1);
        check.due("its VALUE", x.value(0), 2);
        check.due("made ahead of C's", x.thing(0, 1), number + 1);
        check.due("C's", x.thing(-1, 1), number + 2);
        int get = x.node(Check.GET, 0, 0, 0);
        check.dueValue("C sees the kind", x, x.node(Check.TRY, bad, 0, get), 2);
        check.due("a new NUM each time", x.thing(-1, 1), number + 3);
        check.dueKind("C gives nothing", x, x.node(Check.TRY, bad, 0, none), 0);
        check.dueKind("C writes over SLOT 0", x, x.node(Check.TRY, bad, 0, x.node(Check.SET, 0, box, 0)), 4);
        check.due("SLOT 0", x.thing(0, 0), 4);
        check.due("fault()", x.fault(), 0);
    }

    // "a fault in C, or of another kind, goes on outward"
    private void faultInC() {
        fresh();
        int field = x.node(Check.FIELD, one, 0, 0);
        check.dueFault("a fault of the same kind in C", x, x.node(Check.TRY, bad, 0, bad), 2, bad);
        int inner = x.node(Check.TRY, bad, 0, field);
        check.dueFault("a fault in C", x, inner, 3, field);
        check.due("SLOT 0 has the kind of the first", x.value(0), 2);
        check.dueValue("the outer one takes it", x, x.node(Check.TRY, inner, 3, one), 1);
        check.due("SLOT 0 has the kind of the second", x.value(0), 3);
        check.dueFault("the outer one is for the first", x, x.node(Check.TRY, inner, 2, one), 3, field);
        int lacking = x.node(Check.TRY, bad, 0, -1);
        dueFaultHere("C is nothing", lacking, 1);
        check.dueValue("the outer one takes that", x, x.node(Check.TRY, lacking, 1, one), 1);
        int far = x.node(Check.TRY, x.node(Check.TRY, bad, 1, field), 2, one);
        check.dueValue("one of another kind goes on", x, far, 1);
        check.due("SLOT 0", x.value(0), 2);
    }

    // "16 RAISE A: A is worked; then the HELD one goes out: a fault 7 at this NODE"
    private void raiseWorksA() {
        fresh();
        int raise = x.node(Check.RAISE, faultThing, 0, 0);
        dueFaultHere("A holds one itself", raise, 7);
        for (int a : new int[] {none, one, cell, box, bare}) {
            x.part(raise, 0, a);
            dueFaultHere("A gives NODE " + a, raise, 7);
        }
        x.part(raise, 0, bad);
        check.dueFault("a fault in A", x, raise, 2, bad);
        x.part(raise, 0, -1);
        dueFaultHere("A is nothing", raise, 1);
        x.part(raise, 0, x.node(Check.SET, 1, two, 0));
        dueRun("no STEP for B of A", raise, 2, -1, 2);
        check.due("SLOT 1", x.thing(1, 0), 0);
        check.dueValue("TRY 7", x, x.node(Check.TRY, raise, 7, one), 1);
        check.due("A was worked", x.value(1), 2);
        check.dueFault("TRY 1", x, x.node(Check.TRY, raise, 1, one), 7, raise);
    }

    // "if none is HELD: 1"
    private void raiseWithNoneHeld() {
        fresh();
        int raise = x.node(Check.RAISE, x.node(Check.SET, 1, two, 0), 0, 0);
        dueFaultHere("none is HELD", raise, 1);
        check.due("A was worked", x.value(1), 2);
        check.dueValue("TRY 1", x, x.node(Check.TRY, raise, 1, one), 1);
        check.dueFault("TRY 7", x, x.node(Check.TRY, raise, 7, one), 1, raise);
        x.run(x.node(Check.HOLD, none, 0, 0), 10);
        dueFaultHere("HOLD of nothing held none", raise, 1);
        x.run(faultThing, 1);
        dueFaultHere("HOLD without its STEPS held none", raise, 1);
        x.run(faultThing, 2);
        dueFaultHere("one is HELD", raise, 7);
        dueFaultHere("and stays so", raise, 7);
        x.wipe();
        int again = x.node(Check.RAISE, x.lit(1), 0, 0);
        check.due("number behind wipe", again, 1);
        dueFaultHere("wipe let it go", again, 1);
    }

    // "17 HOLD A (A: NUM)"
    private void holdAsksForANum() {
        fresh();
        int raise = x.node(Check.RAISE, one, 0, 0);
        int hold = x.node(Check.HOLD, none, 0, 0);
        dueRefused("HOLD of nothing", hold, 1, 0);
        int[] others = {keep(1, cell), keep(2, duo), keep(3, box), keep(4, row), keep(5, bare)};
        for (int other : others) {
            x.part(hold, 0, other);
            dueRefused("HOLD of NODE " + other, hold, 3, 0);
        }
        dueFaultHere("none is HELD by them", raise, 1);
        x.part(hold, 0, keep(6, faultThing));
        dueRefused("HOLD of a FAULT", hold, 3, 0);
        dueFaultHere("the one before is HELD still", raise, 7);
    }

    // "a new FAULT with its VALUE is HELD; gives it"
    private void holdIsNew() {
        fresh();
        for (long told : new long[] {0, -1, Long.MIN_VALUE, Long.MAX_VALUE}) {
            int hold = x.node(Check.HOLD, x.lit(told), 0, 0);
            int number = nextNumber();
            check.dueValue("HOLD of " + told, x, hold, told);
            check.due("a FAULT", x.thing(-1, 0), 6);
            check.due("a new one", x.thing(-1, 1), number + 2);
            check.due("no fault", x.fault(), 0);
        }
        check.dueKind("it may be a FIELD's", x, x.node(Check.BOX, faultThing, 0, 0), 4);
        check.due("THING in the FIELD", x.thing(-1, 2), x.thing(-1, 1) - 1);
    }

    // "18 SEQ A, B: A, then B; gives B's."
    private void seqGivesB() {
        fresh();
        int first = x.node(Check.SET, 1, one, 0);
        int second = x.node(Check.SET, 1, two, 0);
        check.dueValue("SEQ", x, x.node(Check.SEQ, first, second, 0), 2);
        check.due("A, then B", x.value(1), 2);
        check.dueValue("A gives nothing", x, x.node(Check.SEQ, none, two, 0), 2);
        check.dueKind("B gives nothing", x, x.node(Check.SEQ, two, none, 0), 0);
        check.dueFault("a fault in A", x, x.node(Check.SEQ, bad, first, 0), 2, bad);
        check.due("B wasn't worked", x.value(1), 2);
    }

    // "19 IF A, B, C: A; then (NUM) B, if its VALUE isn't 0, else C."
    private void ifByValue() {
        fresh();
        int choice = x.node(Check.IF, zero, one, two);
        check.dueValue("IF 0", x, choice, 2);
        for (long told : new long[] {1, -1, 1L << 32, Long.MIN_VALUE, Long.MAX_VALUE}) {
            x.part(choice, 0, x.lit(told));
            check.dueValue("IF " + told, x, choice, 1);
            check.due("STEPS of IF " + told, x.steps(), 3);
        }
        check.dueKind("B gives nothing", x, x.node(Check.IF, one, none, two), 0);
        check.dueKind("C gives nothing", x, x.node(Check.IF, zero, two, none), 0);
        dueFaultHere("B is nothing", x.node(Check.IF, one, -1, two), 1);
        dueFaultHere("C is nothing", x.node(Check.IF, zero, two, -1), 1);
    }

    // "(NUM)" of IF
    private void ifAsksForANum() {
        fresh();
        int mark = x.node(Check.SET, 7, two, 0);
        int choice = x.node(Check.IF, none, mark, mark);
        dueRefused("IF of nothing", choice, 1, 0);
        for (int other : new int[] {keep(1, cell), keep(2, duo), keep(3, box), keep(4, row), keep(5, bare),
            keep(6, faultThing)}) {
            x.part(choice, 0, other);
            dueRefused("IF of NODE " + other, choice, 3, 0);
        }
        check.due("neither B nor C was worked", x.thing(7, 0), 0);
    }

    // "20 TIMES A, B: A; then (NUM) B as many times as its VALUE (none below 1)"
    private void timesByValue() {
        fresh();
        int times = x.node(Check.TIMES, zero, two, 0);
        for (long told : new long[] {0, -1, -(1L << 32) + 1, Long.MIN_VALUE}) {
            x.part(times, 0, x.lit(told));
            dueRun("TIMES " + told, times, 10000, 0, 2);
            check.due("it gave nothing", x.thing(-1, 0), 0);
        }
        for (int told = 1; told <= 3; told++) {
            x.part(times, 0, x.lit(told));
            dueRun("TIMES " + told, times, 10000, 0, 2 + told);
            check.due("it gave B's", x.value(-1), 2);
        }
        x.part(times, 0, x.lit(9998));
        dueRun("as many as 10000 STEPS allow", times, 10000, 0, 10000);
        x.part(times, 0, x.lit(9999));
        dueRun("one more", times, 10000, -1, 10000);
        x.part(times, 0, x.lit(1L << 32));
        dueRun("2^32 is no 0", times, 100, -1, 100);
        x.part(times, 0, x.lit(Long.MAX_VALUE));
        dueRun("the greatest", times, 100, -1, 100);
    }

    // "(NUM)" of TIMES
    private void timesAsksForANum() {
        fresh();
        int mark = x.node(Check.SET, 7, two, 0);
        int times = x.node(Check.TIMES, none, mark, 0);
        dueRefused("TIMES nothing", times, 1, 0);
        for (int other : new int[] {keep(1, cell), keep(2, duo), keep(3, box), keep(4, row), keep(5, bare),
            keep(6, faultThing)}) {
            x.part(times, 0, other);
            dueRefused("TIMES of NODE " + other, times, 3, 0);
        }
        check.due("B wasn't worked", x.thing(7, 0), 0);
    }

    // "gives the last one's; nothing, if none was"
    private void timesGivesTheLast() {
        fresh();
        int kept = keep(1, x.node(Check.BOX, zero, 0, 0));
        int count = x.node(Check.SEND, kept, 1, x.node(Check.SEND, kept, 2, one));
        check.dueValue("the third one's", x, x.node(Check.TIMES, x.lit(3), count, 0), 2);
        check.dueKind("B gives nothing", x, x.node(Check.TIMES, two, none, 0), 0);
        check.dueKind("A's NUM isn't given", x, x.node(Check.TIMES, zero, two, 0), 0);
        int swap = x.node(Check.SEND, kept, 1, none);
        check.dueKind("the last one's is nothing, the first one's is not", x, x.node(Check.TIMES, two, swap, 0), 0);
        keep(1, box);
        int add = x.node(Check.SEND, kept, 2, one);
        int once = x.node(Check.SEQ, add, swap, 0);
        check.dueFault("a fault in the second ends it", x, x.node(Check.TIMES, x.lit(3), once, 0), 1, add);
        check.due("its STEPS", x.steps(), 2 + 7 + 4);
        check.dueFault("a fault in the first ends it", x, x.node(Check.TIMES, two, bad, 0), 2, bad);
        check.due("its STEPS", x.steps(), 3);
        dueFaultHere("B is nothing", x.node(Check.TIMES, one, -1, 0), 1);
        check.dueKind("B is nothing and isn't worked", x, x.node(Check.TIMES, zero, -1, 0), 0);
    }
}
