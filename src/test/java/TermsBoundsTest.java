/**
 * A test for each sentence of "What it is" and of "Terms", ahead of the text block, that names a
 * boundary case. The sentence stands above its test.
 */
public final class TermsBoundsTest extends Bench {
    public static void main(String[] args) {
        TermsBoundsTest test = new TermsBoundsTest();
        test.isUsedFor512Calls();
        test.faultGoesToTheNearest();
        test.thingsAreNumberedFromZero();
        test.aDuoIsACell();
        test.aFaultIsNoNum();
        test.thereAre256Slots();
        test.placesHaveNothingAtFirst();
        test.nodesAreAtMost4000();
        test.smallLettersAreInts();
        test.partOfSeveralAndOfItself();
        test.workingTakesAStep();
        test.endsAtOnceWithoutAStep();
        test.depthEndsAt200();
        test.depthIsBehindTheStep();
        test.aPartThatIsNothing();
        test.looksFromTheLeft();
        test.whatWasDoneStays();
        test.check.end();
    }

    // "An object is used for at most 512 calls after it has been made; what later calls answer is free."
    private void isUsedFor512Calls() {
        x = new FrameTalk();
        for (int call = 1; call <= 509; call++) {
            check.due("lit, call " + call, x.lit(call), call - 1);
        }
        check.due("node, call 510", x.node(Check.SET, 255, 508, 0), 509);
        check.due("run, call 511", x.run(509, 10000), 0);
        check.due("value, call 512", x.value(255), 509);
        check.due("a later call ends, too", x.steps() >= 0 ? 0 : 1, 0);
    }

    // "What is missing, of another kind, outside, or too wide for its row is a fault at its node, and goes
    // outward to the nearest node that takes it."
    private void faultGoesToTheNearest() {
        fresh();
        int nearMark = x.node(Check.SET, 1, one, 0);
        int farMark = x.node(Check.SET, 2, two, 0);
        int duos = x.node(Check.ROW, 2, one, 0);
        int[] faulty = {
            x.node(Check.FIELD, none, 0, 0), bad, x.node(Check.FIELD, one, 0, 0), x.node(Check.PUT, duos, zero, cell)
        };
        for (int i = 0; i < faulty.length; i++) {
            int kind = i + 1;
            int between = x.node(Check.SEQ, x.node(Check.BOX, faulty[i], 0, 0), one, 0);
            check.dueFault("kind " + kind + ", nothing takes it", x, between, kind, faulty[i]);
            int near = x.node(Check.TRY, between, kind, nearMark);
            int far = x.node(Check.TRY, x.node(Check.BOX, near, 0, 0), kind, farMark);
            check.dueKind("kind " + kind + ", the near one takes it", x, far, 4);
            check.due("the near one was worked", x.value(1), 1);
            check.due("the far one was not", x.thing(2, 0), 0);
            x.part(near, 1, kind + 1);
            check.dueValue("kind " + kind + ", the far one takes it", x, far, 2);
            check.due("the far one was worked", x.value(2), 2);
            x.part(far, 1, kind + 1);
            check.dueFault("kind " + kind + ", neither takes it", x, far, kind, faulty[i]);
            x.run(x.node(Check.SET, 2, none, 0), 10);
        }
    }

    // "THINGS, numbered from 0 on in the order in which they are made"
    private void thingsAreNumberedFromZero() {
        fresh();
        check.dueKind("nothing has no number", x, none, 0);
        check.due("thing(-1, 1) of nothing", x.thing(-1, 1), -1);
        x.run(bad, 10);
        x.run(cell, 10);
        check.due("the first THING", x.thing(-1, 2), 0);
        check.due("the second THING", x.thing(-1, 3), 1);
        check.due("the CELL behind its FIELDS", x.thing(-1, 1), 2);
        x.run(none, 10);
        x.run(x.node(Check.FIELD, cell, 0, 0), 10);
        check.due("FIELD makes none", x.thing(-1, 1), 3);
        check.due("the next one", nextNumber(), 6);
        x.run(x.node(Check.SEQ, one, bad, 0), 10);
        check.due("one made ahead of a fault has its number", nextNumber(), 8);
        x.run(x.node(Check.SEQ, one, one, 0), 2);
        check.due("one made ahead of the last STEP, too", nextNumber(), 10);
    }

    // "a DUO (which is a CELL, too)"
    private void aDuoIsACell() {
        fresh();
        int keptCell = keep(1, cell);
        int keptDuo = keep(2, duo);
        int cells = keep(3, x.node(Check.ROW, 1, one, 0));
        int duos = keep(4, x.node(Check.ROW, 2, one, 0));
        check.dueValue("FIELD of a DUO", x, x.node(Check.FIELD, keptDuo, 1, 0), 2);
        check.dueValue("STORE to a DUO", x, x.node(Check.STORE, keptDuo, 0, zero), 0);
        check.dueValue("LEFT behind it", x, x.node(Check.LEFT, keptDuo, 0, 0), 0);
        check.dueKind("PUT a DUO among CELLS", x, x.node(Check.PUT, cells, zero, keptDuo), 3);
        check.dueKind("AT behind it", x, x.node(Check.AT, cells, zero, 0), 3);
        dueFaultHere("LEFT of a CELL", x.node(Check.LEFT, keptCell, 0, 0), 3);
        dueFaultHere("RIGHT of a CELL", x.node(Check.RIGHT, keptCell, 0, 0), 3);
        dueFaultHere("PUT a CELL among DUOS", x.node(Check.PUT, duos, zero, keptCell), 4);
        check.dueKind("AT behind it", x, x.node(Check.AT, duos, zero, 0), 0);
        check.due("a DUO is told as one", x.thing(2, 0), 3);
        check.due("a CELL is told as one", x.thing(1, 0), 2);
    }

    // "a FAULT (a VALUE, too, but it is no NUM)"
    private void aFaultIsNoNum() {
        freshWithLeaves();
        int fault = keep(5, faultThing);
        check.due("its VALUE", x.value(5), 2);
        check.due("its kind", x.thing(5, 0), 6);
        int[] asked = {
            x.node(Check.SEND, x.node(Check.BOX, fault, 0, 0), 2, one), x.node(Check.SEND, box, 2, fault),
            x.node(Check.ROW, 0, fault, 0), x.node(Check.ROW, 3, fault, 0),
            x.node(Check.PUT, row, fault, one), x.node(Check.AT, row, fault, 0),
            x.node(Check.HOLD, fault, 0, 0), x.node(Check.IF, fault, one, one), x.node(Check.TIMES, fault, one, 0)
        };
        int[] same = {
            x.node(Check.SEND, x.node(Check.BOX, one, 0, 0), 2, one), x.node(Check.SEND, box, 2, one),
            x.node(Check.ROW, 0, one, 0), x.node(Check.ROW, 3, one, 0),
            x.node(Check.PUT, row, one, one), x.node(Check.AT, row, one, 0),
            x.node(Check.HOLD, one, 0, 0), x.node(Check.IF, one, one, one), x.node(Check.TIMES, one, one, 0)
        };
        for (int i = 0; i < asked.length; i++) {
            dueFaultHere("a FAULT where a NUM is asked for, " + i, asked[i], 3);
            check.due("a NUM there, " + i, x.run(same[i], 100), 0);
        }
    }

    // "in PLACES and in the 256 SLOTS (from 0 on) nothing at first" (SLOTS)
    private void thereAre256Slots() {
        fresh();
        int get = x.node(Check.GET, 0, 0, 0);
        for (int slot = 0; slot < 256; slot += 255) {
            x.part(get, 0, slot);
            check.dueKind("SLOT " + slot + " at first", x, get, 0);
            keep(slot, two);
            check.dueValue("SLOT " + slot, x, get, 2);
            check.due("value(" + slot + ")", x.value(slot), 2);
        }
        check.due("SLOT 1 has nothing still", x.thing(1, 0), 0);
        check.due("SLOT 254 has nothing still", x.thing(254, 0), 0);
        for (int slot = -1; slot <= 256; slot += 257) {
            x.part(get, 0, slot);
            dueFaultHere("SLOT " + slot, get, 2);
        }
        check.due("value(256)", x.value(256), 0);
        check.due("thing(256, 0)", x.thing(256, 0), -1);
    }

    // "in PLACES and in the 256 SLOTS (from 0 on) nothing at first" (PLACES)
    private void placesHaveNothingAtFirst() {
        fresh();
        for (int use = 0; use <= 2; use++) {
            int made = keep(use, x.node(Check.ROW, use, x.lit(3), 0));
            for (int place = 0; place < 3; place++) {
                int at = x.node(Check.AT, made, x.lit(place), 0);
                check.dueKind("PLACE " + place + " at first", x, at, 0);
                x.run(x.node(Check.PUT, made, x.lit(place), duo), 100);
                check.dueKind("PLACE " + place + " behind PUT", x, at, 3);
            }
            dueFaultHere("PLACE 3 of 3", x.node(Check.AT, made, x.lit(3), 0), 2);
        }
    }

    // "NODES, numbered from 0 on, at most 4000". The document's users can't come so far with 512 calls; the
    // bound is told all the same.
    private void nodesAreAtMost4000() {
        x = new FrameTalk();
        for (int node = 0; node < 3998; node++) {
            check.due("lit", x.lit(node), node);
        }
        int box = x.node(Check.BOX, 3997, 0, 0);
        check.due("node, the 3999th", box, 3998);
        check.due("lit, the 4000th", x.lit(7), 3999);
        check.due("lit beyond", x.lit(8), -1);
        check.due("node beyond", x.node(Check.BOX, 0, 0, 0), -1);
        check.due("another OP beyond", x.node(21, 0, 0, 0), -1);
        check.dueValue("the last one is as it was", x, 3999, 7);
        check.dueFault("there is no 4000", x, 4000, 1, -1);
        check.due("part of 4000", x.part(4000, 0, 0), -1);
        check.due("part of 3998 is 3999", x.part(box, 0, 3999), 0);
        check.dueKind("which is worked", x, box, 4);
        check.due("part of 3998 is 4000", x.part(box, 0, 4000), 0);
        check.dueFault("which is nothing", x, box, 1, box);
        x.wipe();
        for (int node = 0; node < 4000; node++) {
            check.due("node behind wipe", x.node(Check.GET, 0, 0, 0), node);
        }
        check.due("node beyond", x.node(Check.GET, 0, 0, 0), -1);
        check.due("lit beyond", x.lit(8), -1);
    }

    // "Told as A, B, C a PART is a NODE or nothing; told as a, b an int."
    private void smallLettersAreInts() {
        freshWithLeaves();
        for (int told : new int[] {-1, 200, Integer.MIN_VALUE, Integer.MAX_VALUE}) {
            check.dueValue("FIELD b " + told, x, x.node(Check.FIELD, cell, told, 0), 2);
            check.dueValue("SEND b " + told, x, x.node(Check.SEND, box, told, none), 0);
            check.dueKind("ROW a " + told, x, x.node(Check.ROW, told, one, 0), 5);
            check.due("which is without any", x.thing(-1, 2), -1);
            check.dueFault("TRY b " + told, x, x.node(Check.TRY, bad, told, one), 2, bad);
            int made = x.node(Check.BOX, told, 0, 0);
            dueFaultHere("BOX A " + told, made, 1);
            check.due("its STEPS", x.steps(), 1);
        }
        check.dueValue("SET a 200, no NODE of that number", x, x.node(Check.SET, 200, two, 0), 2);
        check.dueValue("GET a 200", x, x.node(Check.GET, 200, 0, 0), 2);
    }

    // "A NODE may be the PART of several, and of itself."
    private void partOfSeveralAndOfItself() {
        fresh();
        int pair = x.node(Check.CELL, two, two, 0);
        dueRun("twice in one", pair, 10, 0, 3);
        check.due("worked twice", x.thing(-1, 3), x.thing(-1, 2) + 1);
        dueRun("in two", x.node(Check.CELL, pair, x.node(Check.BOX, two, 0, 0), 0), 10, 0, 6);
        int self = x.node(Check.SEQ, one, one, 0);
        check.due("part is itself", x.part(self, 1, self), 0);
        check.dueFault("SEQ whose B is itself: its A is too deep first", x, self, 7, one);
        check.due("its STEPS", x.steps(), 200 + 200);
        int get = x.node(Check.GET, 3, 0, 0);
        int choice = x.node(Check.IF, get, one, two);
        check.due("part is itself", x.part(choice, 1, choice), 0);
        keep(3, zero);
        check.dueValue("itself isn't worked", x, choice, 2);
    }

    // "WORKING a NODE takes a STEP and gives a THING or nothing."
    private void workingTakesAStep() {
        freshWithLeaves();
        for (int op = 1; op <= 20; op++) {
            int node = nodeOf(op, fitting(op));
            int parts = op == Check.TRY ? 1 : op == Check.IF ? 2 : GREAT[op].length();
            int answer = op == Check.RAISE ? 2 : 0;
            dueRun("OP " + op + " with its STEPS", node, 1 + parts, answer, 1 + parts);
            dueRun("OP " + op + " with one less", node, parts, -1, parts);
            dueRun("OP " + op + " with one more", node, 2 + parts, answer, 1 + parts);
        }
        dueRun("lit with its STEP", one, 1, 0, 1);
        dueRun("lit with none", one, 0, -1, 0);
    }

    // "Without a STEP left the run ends at once."
    private void endsAtOnceWithoutAStep() {
        fresh();
        int first = x.node(Check.SET, 1, one, 0);
        int second = x.node(Check.SET, 2, two, 0);
        int both = x.node(Check.TRY, x.node(Check.SEQ, first, second, 0), 0, one);
        for (int steps = 0; steps < 6; steps++) {
            x.run(one, 1);
            dueRun(steps + " STEPS", both, steps, -1, steps);
            check.due("SLOT 1 with " + steps, x.thing(1, 0), steps >= 4 ? 1 : 0);
            check.due("SLOT 2 with " + steps, x.thing(2, 0), 0);
            check.due("SLOT 0: TRY took nothing", x.thing(0, 0), 0);
            check.due("what it gave", x.thing(-1, 0), 0);
            check.due("fault()", x.fault(), 0);
            check.due("faultNode()", x.faultNode(), -1);
        }
        dueRun("6 STEPS", both, 6, 0, 6);
        check.due("SLOT 2", x.value(2), 2);
        int taken = x.node(Check.TRY, bad, 0, first);
        dueRun("no STEP for C", taken, 2, -1, 2);
        check.due("SLOT 0 got the kind", x.value(0), 2);
        check.due("fault() of a fault that was taken", x.fault(), 0);
    }

    /** A chain of BOXES; works the inner NODE at DEPTH 200 from its end, at 199 from the one ahead of it. */
    private int[] boxesAround(int inner) {
        int[] chain = new int[199];
        for (int i = 0; i < chain.length; i++) {
            chain[i] = x.node(Check.BOX, i == 0 ? inner : chain[i - 1], 0, 0);
        }
        return chain;
    }

    // "The NODE of a run is worked at DEPTH 1, a PART that is worked at one more than its NODE; at DEPTH 201
    // (behind the STEP) it is a fault of kind 7 at the PART itself."
    private void depthEndsAt200() {
        freshWithLeaves();
        int[] chain = boxesAround(one);
        dueRun("a lit at DEPTH 200", chain[198], 10000, 0, 200);
        for (int op = 2; op <= 20; op++) {
            int[] parts = fitting(op);
            int node = nodeOf(op, parts);
            x.part(chain[0], 0, node);
            check.due("PARTS of OP " + op + " at DEPTH 200", x.run(chain[197], 10000), op == Check.RAISE ? 2 : 0);
            int firstWorked = parts[GREAT[op].charAt(0) - 'A'];
            check.dueFault("a PART of OP " + op + " at DEPTH 201", x, chain[198], 7, firstWorked);
            check.due("its STEPS", x.steps(), 201);
        }
        int taken = x.node(Check.TRY, one, 7, two);
        x.part(chain[0], 0, taken);
        check.dueFault("C of TRY at DEPTH 201", x, chain[198], 7, two);
        dueRun("STEPS of both PARTS", chain[198], 10000, 8, 202);
        check.due("the kind of the fault in A", x.value(0), 7);
        x.part(chain[0], 0, one);
        dueRun("DEPTH is counted anew", chain[198], 10000, 0, 200);
    }

    // "(behind the STEP)"
    private void depthIsBehindTheStep() {
        fresh();
        int[] chain = boxesAround(x.node(Check.BOX, one, 0, 0));
        dueRun("no STEP for DEPTH 201", chain[198], 200, -1, 200);
        check.due("fault()", x.fault(), 0);
        dueRun("a STEP for DEPTH 201", chain[198], 201, 8, 201);
        check.due("fault()", x.fault(), 7);
        check.due("faultNode()", x.faultNode(), one);
        int bare = x.node(Check.BOX, -1, 0, 0);
        x.part(chain[0], 0, bare);
        check.dueFault("nothing at DEPTH 201", x, chain[198], 1, bare);
        check.due("its STEPS", x.steps(), 200);
    }

    // "When a PART is to be worked and is nothing, that is a fault 1 at the NODE that has it (no STEP)."
    private void aPartThatIsNothing() {
        freshWithLeaves();
        for (int op = 2; op <= 20; op++) {
            for (int i = 0; i < GREAT[op].length(); i++) {
                int which = GREAT[op].charAt(i) - 'A';
                int[] parts = reaching(op, which);
                parts[which] = -1;
                int ahead = op == Check.IF && which == 2 ? 1 : i;
                int node = nodeOf(op, parts);
                String what = "OP " + op + " without PART " + which;
                check.dueFault(what, x, node, 1, node);
                dueRun(what + ", no STEP is left", node, 1 + ahead, 2, 1 + ahead);
            }
        }
        check.dueValue("C of IF isn't worked", x, x.node(Check.IF, one, two, -1), 2);
        check.dueValue("B of IF isn't worked", x, x.node(Check.IF, zero, -1, two), 2);
        check.dueKind("B of TIMES isn't worked", x, x.node(Check.TIMES, zero, -1, 0), 0);
        check.dueValue("C of TRY isn't worked", x, x.node(Check.TRY, two, 0, -1), 2);
    }

    // "First the PARTS told by great letters are worked, from the left, if it isn't said otherwise; then it is
    // looked at what they gave, from the left: where a NUM, CELL, DUO, BOX or ROW is asked for (in brackets):
    // nothing is a fault 1, another THING a fault 3; then all else."
    private void looksFromTheLeft() {
        freshWithLeaves();
        int mark = x.node(Check.SET, 7, two, 0);
        int three = x.lit(3);
        int[] rows = {none, one, row};
        int[] nums = {none, cell, three};
        int[] rowKinds = {1, 3, 0};
        int[] numKinds = {1, 3, 2};
        for (int a = 0; a < 3; a++) {
            for (int b = 0; b < 3; b++) {
                int kind = rowKinds[a] != 0 ? rowKinds[a] : numKinds[b];
                dueFaultHere("AT " + a + ", " + b, x.node(Check.AT, rows[a], nums[b], 0), kind);
                int put = x.node(Check.PUT, rows[a], nums[b], mark);
                dueFaultHere("PUT " + a + ", " + b, put, kind);
                check.due("C was worked ahead of it", x.value(7), 2);
                check.due("STEPS of PUT", x.steps(), 5);
                keep(7, none);
            }
        }
        int order = x.node(Check.PUT, x.node(Check.SEQ, mark, row, 0), bad, x.node(Check.SET, 8, two, 0));
        check.dueFault("a fault in B", x, order, 2, bad);
        check.due("A was worked ahead of it", x.value(7), 2);
        check.due("C was not", x.thing(8, 0), 0);
        check.dueFault("SET: B is worked ahead of the look at a", x, x.node(Check.SET, 256, bad, 0), 2, bad);
    }

    // "What was done ahead of a fault stays done."
    private void whatWasDoneStays() {
        fresh();
        int keptCell = keep(1, cell);
        int keptBox = keep(2, box);
        int keptRow = keep(3, row);
        int[] doing = {
            x.node(Check.SET, 4, two, 0), x.node(Check.STORE, keptCell, 0, zero),
            x.node(Check.SEND, keptBox, 1, zero), x.node(Check.PUT, keptRow, zero, two), faultThing,
            x.node(Check.ROW, 0, x.lit(19998), 0)
        };
        int number = nextNumber();
        for (int done : doing) {
            check.dueFault("done ahead of a fault", x, x.node(Check.SEQ, done, bad, 0), 2, bad);
        }
        check.due("numbers of THINGS stay used", nextNumber(), number + 10);
        check.due("SET", x.value(4), 2);
        check.dueValue("STORE", x, x.node(Check.FIELD, keptCell, 0, 0), 0);
        check.dueValue("SEND", x, x.node(Check.SEND, keptBox, 0, zero), 0);
        check.dueValue("PUT", x, x.node(Check.AT, keptRow, zero, 0), 2);
        dueFaultHere("HOLD", x.node(Check.RAISE, zero, 0, 0), 7);
        dueFaultHere("PLACES stay used", x.node(Check.ROW, 0, one, 0), 8);
        check.due("a fault that was taken", x.run(x.node(Check.TRY, x.node(Check.SEQ, x.node(Check.SET, 5, one, 0),
            bad, 0), 0, one), 20), 0);
        check.due("SET ahead of it", x.value(5), 1);
    }
}
