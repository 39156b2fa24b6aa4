/**
 * A test for each sentence on the OPs 11 (ROW) to 14 (SIZE) that names a boundary case. The sentence
 * stands above its test.
 */
public final class RowOpsBoundsTest extends Bench {
    private static final long TWO_TO_32 = 1L << 32;
    private static final int ROW_KIND = 5;

    public static void main(String[] args) {
        RowOpsBoundsTest test = new RowOpsBoundsTest();
        test.rowAsksForANum();
        test.takesTheLowest32Bits();
        test.isForAllCellsOrDuos();
        test.belowZero();
        test.moreThanAreLeft();
        test.placesEver();
        test.withoutAny();
        test.putAsks();
        test.putWithoutPlaces();
        test.putOutside();
        test.putWhatItIsNotFor();
        test.putGives();
        test.atWithoutPlaces();
        test.atOutside();
        test.sizeTells();
        test.aRowWithZeroPlaces();
        test.check.end();
    }

    private int rowOf(int use, long places) {
        return x.node(Check.ROW, use, x.lit(places), 0);
    }

    private void dueRow(String what, int node, int places, int use) {
        check.dueKind(what, x, node, ROW_KIND);
        check.due(what + " (PLACES)", x.thing(-1, 2), places);
        check.due(what + " (for)", x.thing(-1, 3), use);
    }

    // "11 ROW a, B (B: NUM)"
    private void rowAsksForANum() {
        fresh();
        int[] others = {keep(1, cell), keep(2, duo), keep(3, box), keep(4, row), keep(5, bare), keep(6, faultThing)};
        for (int use = -1; use <= 3; use++) {
            int made = x.node(Check.ROW, use, none, 0);
            dueRefused("ROW " + use + " of nothing", made, 1, 0);
            for (int other : others) {
                x.part(made, 1, other);
                dueFaultHere("ROW " + use + " of NODE " + other, made, 3);
            }
            x.part(made, 1, one);
            check.dueKind("ROW " + use + " of a NUM", x, made, ROW_KIND);
        }
    }

    // "a new ROW with B (its VALUE's lowest 32 bits as an int) PLACES"
    private void takesTheLowest32Bits() {
        fresh();
        dueRow("ROW of 3", rowOf(0, 3), 3, 0);
        int number = x.thing(-1, 1);
        dueRow("ROW of 2^32", rowOf(0, TWO_TO_32), 0, 0);
        check.due("a new one", x.thing(-1, 1), number + 2);
        dueRow("ROW of 2^32 + 3", rowOf(1, TWO_TO_32 + 3), 3, 1);
        dueRow("ROW of -2^32 + 3", rowOf(2, 3 - TWO_TO_32), 3, 2);
        dueRow("ROW of -2^63 + 3", rowOf(0, Long.MIN_VALUE + 3), 3, 0);
        dueFaultHere("ROW of 2^32 - 1", rowOf(0, TWO_TO_32 - 1), 5);
        dueFaultHere("ROW of 2^31", rowOf(0, 1L << 31), 5);
        dueFaultHere("ROW of 2^31 - 1", rowOf(0, Integer.MAX_VALUE), 8);
        dueFaultHere("ROW of 2^63 - 1", rowOf(0, Long.MAX_VALUE), 5);
        dueRow("ROW of -2^63", rowOf(0, Long.MIN_VALUE), 0, 0);
    }

    // "for all THINGS if a is 0, CELLS if 1, DUOS if 2"; "Another a: one without any"
    private void isForAllCellsOrDuos() {
        fresh();
        for (int use = 0; use <= 2; use++) {
            dueRow("ROW " + use, rowOf(use, 2), 2, use);
        }
        for (int use : new int[] {-1, 3, Integer.MIN_VALUE, Integer.MAX_VALUE}) {
            dueRow("ROW " + use, rowOf(use, 2), -1, -1);
        }
    }

    // "below 0: fault 5"
    private void belowZero() {
        fresh();
        for (int use = 0; use <= 2; use++) {
            dueRefused("ROW of -1", rowOf(use, -1), 5, 1);
            dueRefused("ROW of the least int", rowOf(use, Integer.MIN_VALUE), 5, 1);
            dueRow("ROW of 0", rowOf(use, 0), 0, use);
        }
        dueRow("no PLACE was used by them", rowOf(0, 20000), 20000, 0);
        dueFaultHere("below 0 is a 5 also when none is left", rowOf(0, -1), 5);
    }

    // "more than are left of 20,000 ever: 8"
    private void moreThanAreLeft() {
        fresh();
        dueRefused("ROW of 20001", rowOf(0, 20001), 8, 1);
        dueRow("ROW of 20000: a refused one used none", rowOf(0, 20000), 20000, 0);
        dueRefused("ROW of 1, none is left", rowOf(0, 1), 8, 1);
        dueRow("ROW of 0, none is left", rowOf(2, 0), 0, 2);
        dueRow("ROW without any, none is left", rowOf(3, 5), -1, -1);
    }

    // "of 20,000 ever": they are counted over ROWS of all uses, and a ROW that nobody has any more counts still
    private void placesEver() {
        fresh();
        dueRow("ROW of 1", rowOf(0, 1), 1, 0);
        keep(1, rowOf(1, 9999));
        keep(1, rowOf(2, 9999));
        keep(1, none);
        dueRow("ROW without any uses none", rowOf(-1, 9999), -1, -1);
        dueFaultHere("ROW of 2, one is left", rowOf(1, 2), 8);
        dueRow("ROW of 1, one is left", rowOf(1, 1), 1, 1);
        dueFaultHere("ROW of 1, none is left", rowOf(1, 1), 8);
        x.wipe();
        int made = rowOf(0, 1);
        dueFaultHere("ROW of 1 behind wipe", made, 8);
        check.dueKind("TRY takes it", x, x.node(Check.TRY, made, 8, x.lit(4)), 1);
        check.due("its kind", x.value(0), 8);
    }

    // "Another a: one without any, whatever B's VALUE."
    private void withoutAny() {
        fresh();
        for (int use : new int[] {-1, 3, Integer.MIN_VALUE, Integer.MAX_VALUE}) {
            for (long told : new long[] {-1, 0, 20001, Long.MIN_VALUE, Long.MAX_VALUE}) {
                dueRow("ROW " + use + " of " + told, rowOf(use, told), -1, -1);
            }
        }
        dueRow("no PLACE was used by them", rowOf(0, 20000), 20000, 0);
    }

    // "12 PUT A, B, C (A: ROW, B: NUM)", "13 AT A, B (A: ROW, B: NUM)"
    private void putAsks() {
        fresh();
        int kept = keep(1, row);
        int[] noRows = {one, keep(2, cell), keep(3, duo), keep(4, box), keep(5, faultThing)};
        int[] noNums = {kept, keep(2, cell), keep(3, duo), keep(4, box), keep(5, faultThing)};
        for (int op = Check.PUT; op <= Check.AT; op++) {
            int node = x.node(op, none, zero, one);
            dueFaultHere("OP " + op + ", A nothing", node, 1);
            for (int other : noRows) {
                x.part(node, 0, other);
                dueFaultHere("OP " + op + ", A NODE " + other, node, 3);
            }
            x.part(node, 0, kept);
            check.due("OP " + op + ", a ROW and a NUM", x.run(node, 10), 0);
            x.part(node, 1, none);
            dueFaultHere("OP " + op + ", B nothing", node, 1);
            for (int other : noNums) {
                x.part(node, 1, other);
                dueFaultHere("OP " + op + ", B NODE " + other, node, 3);
            }
        }
    }

    // "without PLACES: fault 1"
    private void putWithoutPlaces() {
        fresh();
        int kept = keep(1, bare);
        for (long place : new long[] {-1, 0, 1, 5, Integer.MAX_VALUE, Long.MIN_VALUE}) {
            dueRefused("PUT " + place, x.node(Check.PUT, kept, x.lit(place), one), 1, 2);
        }
        dueFaultHere("B is asked ahead of it", x.node(Check.PUT, kept, kept, one), 3);
        dueFaultHere("B is asked ahead of it, nothing", x.node(Check.PUT, kept, none, one), 1);
        int taken = x.node(Check.TRY, x.node(Check.PUT, kept, zero, one), 1, two);
        check.dueValue("TRY takes it", x, taken, 2);
        check.due("it is without any still", x.thing(1, 2), -1);
    }

    private void dueAt(String what, int kept, int place, int kind) {
        check.dueKind(what + ", PLACE " + place, x, x.node(Check.AT, kept, x.lit(place), 0), kind);
    }

    // "no PLACE B (an int likewise): 2"
    private void putOutside() {
        fresh();
        int kept = keep(1, row);
        long[] outside = {-1, 2, 3, Integer.MIN_VALUE, Integer.MAX_VALUE, TWO_TO_32 - 1, TWO_TO_32 + 2, Long.MAX_VALUE};
        for (long place : outside) {
            dueRefused("PUT " + place, x.node(Check.PUT, kept, x.lit(place), one), 2, 2);
        }
        dueAt("behind them", kept, 0, 0);
        dueAt("behind them", kept, 1, 0);
        check.dueValue("PUT 0", x, x.node(Check.PUT, kept, x.lit(0), one), 1);
        dueAt("behind PUT 0", kept, 0, 1);
        dueAt("behind PUT 0", kept, 1, 0);
        check.dueKind("PUT 1", x, x.node(Check.PUT, kept, x.lit(1), cell), 2);
        dueAt("behind PUT 1", kept, 0, 1);
        dueAt("behind PUT 1", kept, 1, 2);
        check.dueKind("PUT 2^32", x, x.node(Check.PUT, kept, x.lit(TWO_TO_32), box), 4);
        dueAt("behind PUT 2^32", kept, 0, 4);
        check.dueKind("PUT -2^63 + 1", x, x.node(Check.PUT, kept, x.lit(Long.MIN_VALUE + 1), kept), ROW_KIND);
        dueAt("behind PUT -2^63 + 1", kept, 1, ROW_KIND);
    }

    // "what C gave is a THING that it is not for: 4"
    private void putWhatItIsNotFor() {
        boolean[][] fits = {
            {true, true, true, true, true, true, true, true},
            {true, false, true, true, false, false, false, false},
            {true, false, false, true, false, false, false, false}
        };
        for (int use = 0; use <= 2; use++) {
            fresh();
            int kept = keep(1, rowOf(use, 1));
            int[] things = {
                none, one, keep(2, cell), keep(3, duo), keep(4, box), keep(5, row), keep(6, bare), keep(7, faultThing)
            };
            for (int i = 0; i < things.length; i++) {
                String what = "ROW for " + use + ", THING " + i;
                x.run(x.node(Check.PUT, kept, zero, duo), 10);
                int put = x.node(Check.PUT, kept, zero, things[i]);
                if (fits[use][i]) {
                    check.due(what, x.run(put, 10), 0);
                } else {
                    dueFaultHere(what, put, 4);
                    dueAt("the PLACE is as it was", kept, 0, 3);
                }
            }
            dueFaultHere("no such PLACE comes ahead of that", x.node(Check.PUT, kept, one, one), 2);
        }
    }

    // "else that PLACE gets it; gives it"
    private void putGives() {
        fresh();
        int kept = keep(1, rowOf(1, 1));
        int put = x.node(Check.PUT, kept, zero, keep(2, duo));
        check.dueKind("PUT gives it", x, put, 3);
        check.due("the same THING", x.thing(-1, 1), x.thing(2, 1));
        x.run(x.node(Check.AT, kept, zero, 0), 10);
        check.due("so does AT", x.thing(-1, 1), x.thing(2, 1));
        check.dueKind("PUT of nothing", x, x.node(Check.PUT, kept, zero, none), 0);
        dueAt("the PLACE is empty", kept, 0, 0);
        check.dueFault("a fault in C", x, x.node(Check.PUT, kept, zero, bad), 2, bad);
        dueAt("the PLACE is empty still", kept, 0, 0);
    }

    // "13 AT A, B: what is there (1, 2 likewise)": without PLACES
    private void atWithoutPlaces() {
        fresh();
        int kept = keep(1, bare);
        for (long place : new long[] {-1, 0, 1, Integer.MAX_VALUE, Long.MIN_VALUE}) {
            dueRefused("AT " + place, x.node(Check.AT, kept, x.lit(place), 0), 1, 1);
        }
    }

    // "13 AT A, B: what is there (1, 2 likewise)": no such PLACE
    private void atOutside() {
        fresh();
        int kept = keep(1, row);
        x.run(x.node(Check.PUT, kept, zero, one), 10);
        x.run(x.node(Check.PUT, kept, one, two), 10);
        check.dueValue("AT 0", x, x.node(Check.AT, kept, x.lit(0), 0), 1);
        check.dueValue("AT 1", x, x.node(Check.AT, kept, x.lit(1), 0), 2);
        check.dueValue("AT 2^32 + 1", x, x.node(Check.AT, kept, x.lit(TWO_TO_32 + 1), 0), 2);
        check.dueValue("AT -2^32", x, x.node(Check.AT, kept, x.lit(-TWO_TO_32), 0), 1);
        long[] outside = {-1, 2, Integer.MIN_VALUE, Integer.MAX_VALUE, TWO_TO_32 - 1, TWO_TO_32 + 2, Long.MAX_VALUE};
        for (long place : outside) {
            dueRefused("AT " + place, x.node(Check.AT, kept, x.lit(place), 0), 2, 1);
        }
        int long2 = keep(2, rowOf(0, 19998));
        dueAt("the last of 19998", long2, 19997, 0);
        dueFaultHere("the one behind it", x.node(Check.AT, long2, x.lit(19998), 0), 2);
    }

    // "14 SIZE A (A: ROW): a new NUM, how many PLACES it has; without any: fault 1."
    private void sizeTells() {
        fresh();
        int size = x.node(Check.SIZE, none, 0, 0);
        dueRefused("SIZE of nothing", size, 1, 0);
        int[] others = {one, keep(1, cell), keep(2, duo), keep(3, box), keep(4, faultThing)};
        for (int other : others) {
            x.part(size, 0, other);
            dueFaultHere("SIZE of NODE " + other, size, 3);
        }
        x.part(size, 0, keep(5, bare));
        dueRefused("SIZE without any", size, 1, 0);
        for (int places : new int[] {0, 1, 19999}) {
            x.part(size, 0, keep(6, rowOf(1, places)));
            int number = nextNumber();
            check.dueValue("SIZE of " + places, x, size, places);
            check.due("a NUM", x.thing(-1, 0), 1);
            check.due("a new one", x.thing(-1, 1), number + 1);
        }
    }

    // "or a ROW without any": read as another thing than a ROW that was made with 0 PLACES
    private void aRowWithZeroPlaces() {
        fresh();
        int kept = keep(1, rowOf(2, 0));
        check.due("its PLACES", x.thing(1, 2), 0);
        check.due("what it is for", x.thing(1, 3), 2);
        dueFaultHere("AT 0", x.node(Check.AT, kept, zero, 0), 2);
        dueFaultHere("AT -1", x.node(Check.AT, kept, x.lit(-1), 0), 2);
        dueFaultHere("PUT 0", x.node(Check.PUT, kept, zero, duo), 2);
        check.dueValue("SIZE", x, x.node(Check.SIZE, kept, 0, 0), 0);
    }
}
