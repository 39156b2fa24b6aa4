import java.util.function.Consumer;

/**
 * A test for each sentence of the promises 1 to 11 that names a boundary case. The sentence stands
 * above its test.
 */
public final class CallBoundsTest extends Bench {
    /** The PARTS of each OP from 0 on that the document names, by great letters or small ones. */
    private static final String[] NAMED = {
        "", "a", "aB", "AB", "AB", "A", "Ab", "AbC", "A", "A", "AbC",
        "aB", "ABC", "AB", "A", "AbC", "A", "A", "AB", "ABC", "AB"
    };
    private static final int[] NO_STEPS = {-1, 10001, Integer.MIN_VALUE, Integer.MAX_VALUE};
    private static final int[] NO_PLACES = {-2, 256, Integer.MIN_VALUE, Integer.MAX_VALUE};

    public static void main(String[] args) {
        CallBoundsTest test = new CallBoundsTest();
        test.aNewObject();
        test.litBeyond4000();
        test.nodeOfAnotherOp();
        test.nodeOfNoneSuchNow();
        test.eachPartOfNoneSuchNow();
        test.nodeBeyond4000();
        test.partOfNoNodeOrAnotherWhich();
        test.partOfNoneSuchNow();
        test.partsThatAreNotNamed();
        test.runWithItsSteps();
        test.runWithThoseThatAreLeft();
        test.runAnswers();
        test.runOfNoSuchNode();
        test.runIsRefusedAheadOfAllElse();
        test.valueOfNoneSuch();
        test.valueOfTheLatestRun();
        test.thingOfNothing();
        test.thingOfNoSlot();
        test.thingByAnotherWhat();
        test.thingOfARowWithoutPlaces();
        test.thingOfEmptyFields();
        test.faultElseZero();
        test.stepsAheadOfAny();
        test.wipeTakesAway();
        test.wipeLeaves();
        test.wipeOfANewObject();
        test.tellingChangesNothing();
        test.check.end();
    }

    /** NODES of several OPs, and things in SLOTS 0 to 3; the latest run gives a CELL. */
    private static void prepare(FrameTalk x) {
        int five = x.lit(5);
        int cell = x.node(Check.CELL, five, five, 0);
        int box = x.node(Check.BOX, cell, 0, 0);
        x.node(Check.IF, five, box, cell);
        int raise = x.node(Check.RAISE, five, 0, 0);
        x.run(x.node(Check.TRY, raise, 0, five), 10);
        x.run(x.node(Check.SET, 1, x.node(Check.HOLD, five, 0, 0), 0), 10);
        x.run(x.node(Check.SET, 2, x.node(Check.ROW, 1, five, 0), 0), 10);
        x.run(x.node(Check.SET, 3, box, 0), 10);
        x.run(cell, 10);
    }

    /** As prepare, but the latest run ends by a fault. */
    private static void prepareFault(FrameTalk x) {
        prepare(x);
        x.run(x.node(Check.GET, 256, 0, 0), 10);
    }

    /** As prepare, but the latest run ends without a STEP left. */
    private static void prepareSpent(FrameTalk x) {
        prepare(x);
        x.run(1, 2);
    }

    private void dueRefusedCall(String what, Consumer<FrameTalk> call) {
        check.dueUnchanged(what + " behind a THING", CallBoundsTest::prepare, call);
        check.dueUnchanged(what + " behind a fault", CallBoundsTest::prepareFault, call);
        check.dueUnchanged(what + " behind spent STEPS", CallBoundsTest::prepareSpent, call);
        check.dueUnchanged(what + " on a new object", made -> { }, call);
    }

    // Promise 1: "No NODES, nothing in the SLOTS, nothing HELD, nothing run."
    private void aNewObject() {
        x = new FrameTalk();
        for (int node = -1; node <= 1; node++) {
            check.due("part(" + node + ", ..)", x.part(node, 0, 0), -1);
        }
        for (int slot = 0; slot < 256; slot++) {
            check.due("SLOT " + slot, x.thing(slot, 0), 0);
        }
        check.due("what was given", x.thing(-1, 0), 0);
        check.due("fault()", x.fault(), 0);
        check.due("faultNode()", x.faultNode(), -1);
        check.due("steps()", x.steps(), 0);
        check.dueFault("run(0, ..)", x, 0, 1, -1);
        check.due("the first NODE", x.lit(5), 0);
        check.due("the second NODE", x.node(Check.RAISE, 0, 0, 0), 1);
        dueFaultHere("nothing is HELD", 1, 1);
        check.due("the first run but one", x.run(0, 1), 0);
        check.due("its THING behind RAISE's", x.thing(-1, 1), 1);
        check.dueKind("all PLACES are left", x, x.node(Check.ROW, 0, x.lit(20000), 0), 5);
        check.dueSame("two new objects", new FrameTalk(), new FrameTalk());
    }

    // Promise 2: "-1: there are 4000."
    private void litBeyond4000() {
        x = new FrameTalk();
        for (int i = 0; i < 3999; i++) {
            x.lit(i);
        }
        check.due("the 4000th", x.lit(Long.MIN_VALUE), 3999);
        check.due("one more", x.lit(5), -1);
        check.due("again", x.lit(6), -1);
        check.dueValue("the 4000th is as it was", x, 3999, Long.MIN_VALUE);
        check.dueValue("so is the first", x, 0, 0);
        check.dueFault("there is no 4000", x, 4000, 1, -1);
        x.wipe();
        check.due("behind wipe there is room again", x.lit(7), 0);
    }

    // Promise 3: "-1: another OP"
    private void nodeOfAnotherOp() {
        for (int op : new int[] {0, 21, -1, Integer.MIN_VALUE, Integer.MAX_VALUE}) {
            check.due("node(" + op + ", ..)", new FrameTalk().node(op, 0, 0, 0), -1);
            dueRefusedCall("node(" + op + ", ..)", x -> x.node(op, 0, 0, 0));
        }
        x = new FrameTalk();
        check.due("node(1, ..)", x.node(1, 0, 0, 0), 0);
        check.due("node(21, ..)", x.node(21, 0, 0, 0), -1);
        check.due("node(20, ..)", x.node(20, 0, 0, 0), 1);
        check.due("node(0, ..)", x.node(0, 0, 0, 0), -1);
        check.due("the next one", x.lit(0), 2);
    }

    // Promise 3: "a PART told by a great letter is the NODE of that number, or nothing if there is none such now"
    private void nodeOfNoneSuchNow() {
        x = new FrameTalk();
        int lit = x.lit(4);
        check.dueKind("the last one that there is", x, x.node(Check.BOX, 0, 0, 0), 4);
        int own = x.node(Check.BOX, 2, 0, 0);
        check.due("a NODE with its own number", own, 2);
        dueFaultHere("which it isn't yet", own, 1);
        int early = x.node(Check.BOX, 4, 0, 0);
        check.due("the NODE that it was told", x.lit(9), 4);
        dueFaultHere("is none of its PARTS now, either", early, 1);
        for (int number : new int[] {-1, 100, Integer.MIN_VALUE, Integer.MAX_VALUE}) {
            int a = x.node(Check.CELL, number, lit, 0);
            dueFaultHere("A " + number, a, 1);
            check.due("STEPS without A", x.steps(), 1);
            int b = x.node(Check.CELL, lit, number, 0);
            dueFaultHere("B " + number, b, 1);
            check.due("STEPS without B", x.steps(), 2);
            int c = x.node(Check.PUT, lit, lit, number);
            dueFaultHere("C " + number, c, 1);
            check.due("STEPS without C", x.steps(), 3);
        }
        x.wipe();
        int behind = x.node(Check.BOX, 1, 0, 0);
        x.lit(3);
        dueFaultHere("a number from ahead of wipe is none such", behind, 1);
    }

    // Promises 3 and 4, the same for each PART of each OP: a NODE that is made later doesn't become the PART
    private void eachPartOfNoneSuchNow() {
        for (int op = 2; op <= 20; op++) {
            for (int i = 0; i < GREAT[op].length(); i++) {
                int which = GREAT[op].charAt(i) - 'A';
                String what = "OP " + op + ", PART " + which;
                freshWithLeaves();
                int[] parts = reaching(op, which);
                int next = x.lit(0) + 1;
                int fit = parts[which];
                parts[which] = next + 1;
                int node = nodeOf(op, parts);
                check.due(what + ", its number", node, next);
                check.due(what + ", the NODE that it was told", x.lit(0), next + 1);
                dueFaultHere(what + " was none such by node", node, 1);
                check.due(what + " becomes the next one", x.part(node, which, next + 2), 0);
                check.due(what + ", that one", x.lit(0), next + 2);
                dueFaultHere(what + " was none such by part", node, 1);
                check.due(what + " becomes one that there is", x.part(node, which, fit), 0);
                check.due(what + ", then it is worked", x.run(node, 10), op == Check.RAISE ? 2 : 0);
                check.due(what + ", NODE of the fault", x.faultNode(), op == Check.RAISE ? node : -1);
            }
        }
    }

    // Promise 3: "-1: .. or there are 4000."
    private void nodeBeyond4000() {
        x = new FrameTalk();
        for (int i = 0; i < 3999; i++) {
            x.lit(i);
        }
        check.due("the 4000th", x.node(Check.BOX, 3998, 0, 0), 3999);
        check.due("one more", x.node(Check.CELL, 0, 0, 0), -1);
        check.due("again", x.node(Check.GET, 0, 0, 0), -1);
        check.dueKind("the 4000th is as it was", x, 3999, 4);
        check.dueFault("there is no 4000", x, 4000, 1, -1);
        x.wipe();
        check.due("behind wipe there is room again", x.node(Check.GET, 0, 0, 0), 0);
    }

    // Promise 4: "-1: no such NODE; another which."
    private void partOfNoNodeOrAnotherWhich() {
        x = new FrameTalk();
        prepare(x);
        int next = x.lit(1) + 1;
        int[] noNodes = {-1, next, Integer.MIN_VALUE, Integer.MAX_VALUE};
        int[] noWhiches = {-1, 3, Integer.MIN_VALUE, Integer.MAX_VALUE};
        for (int node : noNodes) {
            for (int which = 0; which <= 2; which++) {
                check.due("part(" + node + ", " + which + ", 0)", x.part(node, which, 0), -1);
            }
            dueRefusedCall("part(" + node + ", 0, 0)", made -> made.part(node, 0, 0));
        }
        for (int which : noWhiches) {
            for (int node = 0; node < next; node++) {
                check.due("part(" + node + ", " + which + ", 0)", x.part(node, which, 0), -1);
            }
            dueRefusedCall("part(1, " + which + ", 4)", made -> made.part(1, which, 4));
            check.due("both", x.part(next, which, 0), -1);
        }
        check.due("the first NODE", x.part(0, 0, 0), 0);
        check.due("the last NODE", x.part(next - 1, 2, 0), 0);
    }

    // Promise 4: "PART which (0 a, 1 b, 2 c) of a NODE becomes that, likewise"
    private void partOfNoneSuchNow() {
        x = new FrameTalk();
        int zero = x.lit(0);
        int choice = x.node(Check.IF, zero, zero, zero);
        for (int which = 0; which <= 2; which += 2) {
            for (int child : new int[] {-1, 4, Integer.MIN_VALUE, Integer.MAX_VALUE}) {
                check.due("part is " + child, x.part(choice, which, child), 0);
                dueFaultHere("which is nothing", choice, 1);
            }
            check.due("part is a NODE again", x.part(choice, which, zero), 0);
            dueRun("which is worked", choice, 10, 0, 3);
        }
        check.due("part is the next NODE", x.part(choice, 2, 2), 0);
        check.due("which is made later", x.lit(1), 2);
        dueFaultHere("and isn't the PART", choice, 1);
        check.due("another", x.lit(2), 3);
        check.due("part is the last NODE", x.part(choice, 2, 3), 0);
        check.dueValue("which is worked", x, choice, 2);
        check.due("part is itself", x.part(choice, 2, choice), 0);
        dueRun("which is worked", choice, 3, -1, 3);
        int get = x.node(Check.GET, 0, 0, 0);
        for (int slot : new int[] {-1, 256, Integer.MIN_VALUE, Integer.MAX_VALUE}) {
            check.due("a of GET is " + slot, x.part(get, 0, slot), 0);
            dueFaultHere("GET " + slot, get, 2);
        }
        check.due("a of GET is 255", x.part(get, 0, 255), 0);
        check.dueKind("GET 255", x, get, 0);
    }

    private static boolean isNamed(int op, int which) {
        return NAMED[op].toLowerCase().indexOf('a' + which) >= 0;
    }

    private static void prepareOp(FrameTalk x, int op) {
        int two = x.lit(2);
        x.node(Check.DUO, two, two, 0);
        if (op > 0) {
            x.node(op, 0, 0, 0);
        } else {
            x.lit(3);
        }
    }

    // Promise 4: "(of PARTS that its OP doesn't name, nothing is seen): 0"
    private void partsThatAreNotNamed() {
        for (int op = 0; op <= 20; op++) {
            for (int which = 0; which <= 2; which++) {
                int tested = op;
                int changed = which;
                if (isNamed(op, which)) {
                    continue;
                }
                for (int child : new int[] {-1, 0, 2, Integer.MAX_VALUE}) {
                    check.dueUnchanged("PART " + which + " of OP " + op, made -> prepareOp(made, tested),
                        made -> made.part(2, changed, child));
                    x = new FrameTalk();
                    prepareOp(x, op);
                    check.due("part of OP " + op, x.part(2, which, child), 0);
                }
            }
        }
    }

    // Promise 5: "with so many STEPS (0 to 10,000)"
    private void runWithItsSteps() {
        x = new FrameTalk();
        int seven = x.lit(7);
        int times = x.node(Check.TIMES, x.lit(9998), seven, 0);
        dueRun("0 STEPS", seven, 0, -1, 0);
        dueRun("1 STEP", seven, 1, 0, 1);
        dueRun("9999 STEPS of 10000", times, 9999, -1, 9999);
        dueRun("10000 STEPS of 10000", times, 10000, 0, 10000);
        check.due("what it gave", x.value(-1), 7);
        check.due("-1 STEPS", x.run(seven, -1), -2);
        check.due("10001 STEPS", x.run(seven, 10001), -2);
        check.due("steps() is as it was", x.steps(), 10000);
    }

    /** An object of which so many STEPS are left. */
    private void freshWithStepsLeft(int left) {
        x = new FrameTalk();
        int seven = x.lit(7);
        int endless = x.node(Check.TIMES, x.lit(Long.MAX_VALUE), seven, 0);
        for (int i = 0; i < 4; i++) {
            x.run(endless, 10000);
        }
        x.run(endless, 10000 - left);
    }

    // Promise 5: "or with those that are left of 50,000 ever, if they are fewer"
    private void runWithThoseThatAreLeft() {
        freshWithStepsLeft(4);
        int both = x.node(Check.CELL, 0, 0, 0);
        dueRun("fewer than are left", both, 2, -1, 2);
        dueRun("2 are left of 3", both, 10000, -1, 2);
        check.due("fault()", x.fault(), 0);
        dueRun("none is left", 0, 1, -1, 0);
        freshWithStepsLeft(3);
        both = x.node(Check.CELL, 0, 0, 0);
        dueRun("3 are left of 3", both, 10000, 0, 3);
        check.due("what it gave", x.thing(-1, 0), 2);
        dueRun("none is left", 0, 10000, -1, 0);
        check.due("it gave nothing", x.thing(-1, 0), 0);
        x.wipe();
        dueRun("nor behind wipe", x.lit(5), 1, -1, 0);
        dueRun("0 STEPS when none is left", 0, 0, -1, 0);
        freshWithStepsLeft(10000);
        dueRun("as many are left as are asked for", x.node(Check.TIMES, x.lit(9998), 0, 0), 10000, 0, 10000);
        dueRun("then none", 0, 1, -1, 0);
        freshWithStepsLeft(2);
        dueRun("a fault counts its STEPS", x.node(Check.FIELD, 0, 0, 0), 10000, 4, 2);
        dueRun("then none", 0, 1, -1, 0);
        freshWithStepsLeft(1);
        dueRun("no such NODE counts none", 99, 10000, 2, 0);
        check.due("a refused run counts none", x.run(0, 10001), -2);
        dueRun("one is left still", 0, 10000, 0, 1);
    }

    // Promise 5: "0: it gave its THING or nothing; 1 + the kind of a fault that nothing took; -1: the STEPS
    // were spent."
    private void runAnswers() {
        fresh();
        check.due("a THING", x.run(two, 10), 0);
        check.due("nothing", x.run(none, 10), 0);
        check.due("a FAULT that is given is no fault", x.run(faultThing, 10), 0);
        check.due("a fault that was taken", x.run(x.node(Check.TRY, bad, 0, none), 10), 0);
        int self = x.node(Check.BOX, one, 0, 0);
        x.part(self, 0, self);
        int[] faulty = {
            x.node(Check.FIELD, none, 0, 0), bad, x.node(Check.FIELD, zero, 0, 0),
            x.node(Check.PUT, x.node(Check.ROW, 1, one, 0), zero, one), x.node(Check.ROW, 0, x.lit(-1), 0),
            x.node(Check.SEND, box, 6, zero), self, x.node(Check.ROW, 0, x.lit(20001), 0)
        };
        for (int i = 0; i < faulty.length; i++) {
            check.due("a fault " + (i + 1), x.run(faulty[i], 1000), i + 2);
        }
        check.due("spent", x.run(self, 200), -1);
        check.due("spent at once", x.run(two, 0), -1);
    }

    // Promise 5: "No such NODE: a fault 1 at NODE -1."
    private void runOfNoSuchNode() {
        x = new FrameTalk();
        prepare(x);
        int next = x.lit(1) + 1;
        for (int node : new int[] {-1, next, Integer.MIN_VALUE, Integer.MAX_VALUE}) {
            for (int steps = 0; steps <= 10000; steps += 5000) {
                x.run(0, 1);
                dueRun("run(" + node + ", " + steps + ")", node, steps, 2, 0);
                check.due("fault()", x.fault(), 1);
                check.due("faultNode()", x.faultNode(), -1);
                check.due("what it gave", x.thing(-1, 0), 0);
            }
        }
        dueRun("the last NODE", next - 1, 1, 0, 1);
        dueRun("the first NODE", 0, 1, 0, 1);
    }

    // Promise 5: "-2, ahead of all else, and nothing changes: another number of STEPS."
    private void runIsRefusedAheadOfAllElse() {
        for (int steps : NO_STEPS) {
            x = new FrameTalk();
            prepare(x);
            check.due("run(0, " + steps + ")", x.run(0, steps), -2);
            check.due("run(999, " + steps + ")", x.run(999, steps), -2);
            check.due("run(-1, " + steps + ")", x.run(-1, steps), -2);
            dueRefusedCall("run(0, " + steps + ")", made -> made.run(0, steps));
            dueRefusedCall("run(999, " + steps + ")", made -> made.run(999, steps));
            freshWithStepsLeft(0);
            check.due("run(0, " + steps + ") when none is left", x.run(0, steps), -2);
        }
    }

    // Promise 6: "0 if there is none such"
    private void valueOfNoneSuch() {
        fresh();
        keep(0, x.lit(70));
        keep(255, x.node(Check.HOLD, x.lit(71), 0, 0));
        check.due("a NUM in SLOT 0", x.value(0), 70);
        check.due("a FAULT in SLOT 255", x.value(255), 71);
        for (int i : NO_PLACES) {
            check.due("value(" + i + ")", x.value(i), 0);
        }
        check.due("a SLOT with nothing", x.value(1), 0);
        for (int other : new int[] {cell, duo, box, row, bare}) {
            keep(1, other);
            check.due("a SLOT with another THING", x.value(1), 0);
            check.due("a run that gave another THING", x.value(-1), 0);
        }
        for (long told : new long[] {Long.MIN_VALUE, -1, Long.MAX_VALUE}) {
            keep(1, x.lit(told));
            check.due("the VALUE " + told, x.value(1), told);
        }
    }

    // Promise 6: "(i -1: that the latest run gave; nothing, if it didn't answer 0)"
    private void valueOfTheLatestRun() {
        fresh();
        check.due("ahead of any", x.value(-1), 0);
        check.dueValue("a run that gave a NUM", x, two, 2);
        x.run(bad, 10);
        check.due("a fault", x.value(-1), 0);
        x.run(two, 10);
        x.run(two, 0);
        check.due("spent", x.value(-1), 0);
        x.run(two, 10);
        x.run(99, 10);
        check.due("no such NODE", x.value(-1), 0);
        x.run(two, 10);
        x.run(none, 10);
        check.due("a run that gave nothing", x.value(-1), 0);
        x.run(two, 10);
        x.run(one, 10001);
        check.due("a refused run is none", x.value(-1), 2);
        x.wipe();
        check.due("behind wipe", x.value(-1), 0);
    }

    private void dueThing(String what, int i, int... want) {
        for (int asked = 0; asked <= 3; asked++) {
            check.due(what + ", thing(" + i + ", " + asked + ")", x.thing(i, asked), want[asked]);
        }
    }

    // Promise 7: "what 0: 0 nothing"; "-1: none such (nothing there"
    private void thingOfNothing() {
        fresh();
        dueThing("ahead of any run", -1, 0, -1, -1, -1);
        dueThing("the first SLOT", 0, 0, -1, -1, -1);
        dueThing("the last SLOT", 255, 0, -1, -1, -1);
        x.run(one, 1);
        dueThing("a NUM", -1, 1, 0, -1, -1);
        x.run(bad, 1);
        dueThing("behind a fault", -1, 0, -1, -1, -1);
        x.run(one, 1);
        x.run(one, 0);
        dueThing("behind spent STEPS", -1, 0, -1, -1, -1);
        x.run(one, 1);
        x.run(none, 1);
        dueThing("behind a run that gave nothing", -1, 0, -1, -1, -1);
        keep(0, one);
        keep(0, none);
        dueThing("a SLOT that got nothing", 0, 0, -1, -1, -1);
    }

    // Promise 7: "-1: none such (.. no SLOT"
    private void thingOfNoSlot() {
        fresh();
        keep(0, one);
        keep(255, one);
        for (int i : NO_PLACES) {
            dueThing("no SLOT", i, -1, -1, -1, -1);
        }
        dueThing("the first SLOT", 0, 1, 0, -1, -1);
        dueThing("the last SLOT", 255, 1, 1, -1, -1);
    }

    // Promise 7: "-1: none such (.. another what"
    private void thingByAnotherWhat() {
        fresh();
        int[] things = {none, one, cell, duo, box, row, bare, faultThing};
        for (int i = 0; i < things.length; i++) {
            keep(i, things[i]);
            for (int what : new int[] {-1, 4, Integer.MIN_VALUE, Integer.MAX_VALUE}) {
                check.due("thing(" + i + ", " + what + ")", x.thing(i, what), -1);
                check.due("thing(-1, " + what + ")", x.thing(-1, what), -1);
            }
        }
        dueThing("a DUO, by 0 to 3", 3, 3, 6, 4, 5);
    }

    // Promise 7: "-1: none such (.. a ROW without PLACES by 2 and 3)"
    private void thingOfARowWithoutPlaces() {
        fresh();
        keep(1, bare);
        dueThing("a ROW without PLACES", 1, 5, 1, -1, -1);
        keep(2, x.node(Check.ROW, 2, zero, 0));
        dueThing("a ROW with 0 PLACES", 2, 5, 3, 0, 2);
        keep(3, x.node(Check.ROW, 1, x.lit(20000), 0));
        dueThing("a ROW with all PLACES", 3, 5, 5, 20000, 1);
    }

    // Promise 7: "2: the number of the THING in its first FIELD (BOX: its FIELD)", "3: the number of that in the
    // second FIELD", "-1: none such"
    private void thingOfEmptyFields() {
        fresh();
        keep(1, x.node(Check.CELL, none, one, 0));
        dueThing("a CELL with nothing in the first", 1, 2, 1, -1, 0);
        keep(2, x.node(Check.DUO, one, none, 0));
        dueThing("a DUO with nothing in the second", 2, 3, 3, 2, -1);
        keep(3, x.node(Check.BOX, none, 0, 0));
        dueThing("an empty BOX", 3, 4, 4, -1, -1);
        keep(4, x.node(Check.BOX, one, 0, 0));
        dueThing("a BOX has no second", 4, 4, 6, 5, -1);
        keep(5, x.node(Check.HOLD, one, 0, 0));
        dueThing("a FAULT has none", 5, 6, 8, -1, -1);
    }

    // Promises 8 and 9: "The kind of the fault that ended the latest run, else 0."; "Its NODE, else -1."
    private void faultElseZero() {
        fresh();
        check.due("fault() ahead of any run", x.fault(), 0);
        check.due("faultNode() ahead of any run", x.faultNode(), -1);
        int[] others = {two, none, faultThing, x.node(Check.TRY, bad, 0, none)};
        for (int other : others) {
            check.dueFault("a fault", x, bad, 2, bad);
            x.run(other, 10);
            check.due("fault() of NODE " + other, x.fault(), 0);
            check.due("faultNode() of NODE " + other, x.faultNode(), -1);
        }
        check.dueFault("a fault", x, bad, 2, bad);
        x.run(bad, 0);
        check.due("fault() of spent STEPS", x.fault(), 0);
        check.due("faultNode() of spent STEPS", x.faultNode(), -1);
        int first = x.node(Check.FIELD, one, 0, 0);
        x.wipe();
        check.due("the first NODE", x.node(Check.GET, -1, 0, 0), 0);
        check.dueFault("a fault at NODE 0", x, 0, 2, 0);
        check.dueFault("no such NODE", x, first, 1, -1);
    }

    // Promise 10: "How many STEPS the latest run took; 0 ahead of any."
    private void stepsAheadOfAny() {
        fresh();
        check.due("ahead of any", x.steps(), 0);
        x.run(two, -1);
        check.due("behind a refused run", x.steps(), 0);
        x.wipe();
        check.due("behind wipe", x.steps(), 0);
        fresh();
        dueRun("a run", cell, 10, 0, 3);
        check.due("a refused run", x.run(two, 10001), -2);
        check.due("steps() is as it was", x.steps(), 3);
        dueRun("no such NODE", 999, 10, 2, 0);
        dueRun("spent", cell, 2, -1, 2);
        dueRun("no STEPS", cell, 0, -1, 0);
        dueRun("a fault", x.node(Check.SEQ, cell, bad, 0), 10, 3, 5);
    }

    // Promise 11: "No NODES (the next is 0 again), nothing in the SLOTS, nothing HELD", ".. but what it gave: nothing"
    private void wipeTakesAway() {
        fresh();
        int set = x.node(Check.SET, 0, faultThing, 0);
        int last = set;
        for (int slot = 0; slot < 256; slot += 51) {
            x.part(set, 0, slot);
            x.run(set, 10);
        }
        check.due("SLOT 255 ahead of it", x.thing(255, 0), 6);
        x.wipe();
        for (int slot = 0; slot < 256; slot++) {
            check.due("SLOT " + slot, x.thing(slot, 0), 0);
        }
        check.due("what the run gave", x.thing(-1, 0), 0);
        check.due("part of the first NODE", x.part(0, 0, 0), -1);
        check.due("part of the last NODE", x.part(last, 0, 0), -1);
        check.due("run of the last NODE", x.run(last, 10), 2);
        check.due("the next NODE", x.lit(5), 0);
        check.due("the one behind it", x.node(Check.RAISE, 0, 0, 0), 1);
        dueFaultHere("nothing is HELD", 1, 1);
    }

    // Promise 11: "numbers of THINGS, STEPS and PLACES that were used stay used, and what is told of the latest run"
    private void wipeLeaves() {
        x = new FrameTalk();
        int seven = x.lit(7);
        x.run(x.node(Check.ROW, 0, x.lit(19999), 0), 10);
        x.run(x.node(Check.TIMES, x.lit(Long.MAX_VALUE), seven, 0), 10000);
        int bad = x.node(Check.FIELD, seven, 0, 0);
        x.run(bad, 10);
        x.wipe();
        check.due("fault()", x.fault(), 3);
        check.due("faultNode(), though that NODE is gone", x.faultNode(), bad);
        check.due("steps()", x.steps(), 2);
        x.lit(1);
        x.run(0, 1);
        check.due("numbers of THINGS", x.thing(-1, 1), 2 + 9999 + 1);
        int row = x.node(Check.ROW, 0, x.lit(2), 0);
        dueFaultHere("PLACES", row, 8);
        check.dueKind("the last PLACE", x, x.node(Check.ROW, 0, 0, 0), 5);
        int endless = x.node(Check.TIMES, x.lit(Long.MAX_VALUE), 0, 0);
        int left = 0;
        for (int i = 0; i < 5; i++) {
            x.run(endless, 10000);
            left += x.steps();
        }
        check.due("STEPS", left, 50000 - 2 - 10000 - 2 - 1 - 2 - 2);
    }

    // Promise 11 on an object that has nothing to take away, and a second time
    private void wipeOfANewObject() {
        check.dueUnchanged("wipe of a new object", made -> { }, FrameTalk::wipe);
        check.dueUnchanged("wipe behind wipe", made -> {
            prepareFault(made);
            made.wipe();
        }, FrameTalk::wipe);
    }

    // "The VALUE of ..", "Of the THING there ..", "The kind of ..": what only tells, changes nothing
    private void tellingChangesNothing() {
        dueRefusedCall("value, thing, fault, faultNode, steps", made -> {
            for (int i : new int[] {-2, -1, 0, 3, 255, 256}) {
                made.value(i);
                made.thing(i, 0);
                made.thing(i, 4);
            }
            made.fault();
            made.faultNode();
            made.steps();
        });
    }
}
