import java.util.function.Consumer;

/** Counts the answers of one test that are not as due; what a test prints and how it ends. */
final class Check {
    static final int GET = 1;
    static final int SET = 2;
    static final int CELL = 3;
    static final int DUO = 4;
    static final int BOX = 5;
    static final int FIELD = 6;
    static final int STORE = 7;
    static final int LEFT = 8;
    static final int RIGHT = 9;
    static final int SEND = 10;
    static final int ROW = 11;
    static final int PUT = 12;
    static final int AT = 13;
    static final int SIZE = 14;
    static final int TRY = 15;
    static final int RAISE = 16;
    static final int HOLD = 17;
    static final int SEQ = 18;
    static final int IF = 19;
    static final int TIMES = 20;

    static final int NONE = -1;
    static final int PLENTY = 10000;

    private int wrong = 0;

    void due(String what, long got, long want) {
        if (got != want) {
            wrong++;
            System.out.println(what + ": answered " + got + ", due is " + want);
        }
    }

    /** Runs a NODE that is to give a NUM or FAULT of this VALUE. */
    void dueValue(String what, FrameTalk x, int node, long want) {
        due(what + " (run)", x.run(node, PLENTY), 0);
        due(what + " (value)", x.value(-1), want);
        due(what + " (fault)", x.fault(), 0);
        due(what + " (faultNode)", x.faultNode(), NONE);
    }

    /** Runs a NODE that is to give a THING of this kind (0: nothing). */
    void dueKind(String what, FrameTalk x, int node, int want) {
        due(what + " (run)", x.run(node, PLENTY), 0);
        due(what + " (kind)", x.thing(-1, 0), want);
    }

    /** Runs a NODE that is to end by a fault of this kind at that NODE. */
    void dueFault(String what, FrameTalk x, int node, int kind, int at) {
        due(what + " (run)", x.run(node, PLENTY), 1 + kind);
        due(what + " (fault)", x.fault(), kind);
        due(what + " (faultNode)", x.faultNode(), at);
        due(what + " (what it gave)", x.thing(-1, 0), 0);
    }

    /** A call that is to change nothing: an object that was made likewise but had no such call tells so. */
    void dueUnchanged(String what, Consumer<FrameTalk> made, Consumer<FrameTalk> call) {
        FrameTalk called = new FrameTalk();
        FrameTalk other = new FrameTalk();
        made.accept(called);
        made.accept(other);
        call.accept(called);
        dueSame(what, called, other);
    }

    /** Two objects of which later calls are to show the same; both are used up. */
    void dueSame(String what, FrameTalk got, FrameTalk want) {
        String[] gotLines = State.of(got).split("\n");
        String[] wantLines = State.of(want).split("\n");
        due(what + " (lines of the state)", gotLines.length, wantLines.length);
        for (int i = 0; i < Math.min(gotLines.length, wantLines.length); i++) {
            if (!gotLines[i].equals(wantLines[i])) {
                wrong++;
                System.out.println(what + ": the state has " + gotLines[i] + ", due is " + wantLines[i]);
            }
        }
    }

    void end() {
        System.out.println(wrong == 0 ? "all answers are as due" : wrong + " answers are not as due");
        if (wrong != 0) {
            System.exit(1);
        }
    }
}
