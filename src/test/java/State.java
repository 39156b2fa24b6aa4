/**
 * All that later calls show of an object's state, as one text: what is told of the latest run, what
 * is in SLOTS, what is HELD, what each NODE does, and how many NODES, numbers of THINGS, PLACES and
 * STEPS are used. The object is used up by it: it takes some 400 of its 512 calls.
 */
final class State {
    private static final int[] SEEN = {-2, -1, 0, 1, 2, 3, 254, 255, 256};
    private static final int MOST_NODES_RUN = 20;
    private static final int GREATEST_ROW = 1 << 14;

    private final FrameTalk x;
    private final StringBuilder text = new StringBuilder();

    private State(FrameTalk x) {
        this.x = x;
    }

    static String of(FrameTalk x) {
        State state = new State(x);
        state.tellLatestRun();
        state.tellPlaces();
        int nodes = x.lit(0);
        state.tell("NODES", nodes);
        state.tell("HELD", x.run(x.node(Check.RAISE, nodes, 0, 0), 10));
        state.tellNextNumber(nodes);
        state.tellNodes(Math.min(nodes, MOST_NODES_RUN));
        state.tellPlacesLeft();
        state.tellStepsLeft();
        return state.text.toString();
    }

    private void tell(String what, long answer) {
        text.append(what).append(' ').append(answer).append('\n');
    }

    private void tellLatestRun() {
        tell("fault", x.fault());
        tell("faultNode", x.faultNode());
        tell("steps", x.steps());
    }

    private void tellPlaces() {
        for (int i : SEEN) {
            tellThing(i);
        }
    }

    private void tellThing(int i) {
        tell("value of " + i, x.value(i));
        for (int what = 0; what <= 3; what++) {
            tell("thing of " + i + " by " + what, x.thing(i, what));
        }
    }

    private void tellNextNumber(int lit) {
        x.run(lit, 1);
        tell("number of a new THING", x.thing(-1, 1));
    }

    private void tellNodes(int nodes) {
        for (int node = 0; node < nodes; node++) {
            tell("run of " + node, x.run(node, 300));
            tellLatestRun();
            tellThing(-1);
        }
    }

    // Each power of 2 fits once at most, since fewer than twice the greatest can be left.
    private void tellPlacesLeft() {
        int left = 0;
        for (int places = GREATEST_ROW; places > 0; places /= 2) {
            if (x.run(x.node(Check.ROW, 0, x.lit(places), 0), 2) == 0) {
                left += places;
            }
        }
        tell("PLACES left", left);
    }

    private void tellStepsLeft() {
        int endless = x.node(Check.TIMES, x.lit(Long.MAX_VALUE), x.lit(0), 0);
        int left = 0;
        for (int run = 0; run < 6; run++) {
            x.run(endless, 10000);
            left += x.steps();
        }
        tell("STEPS left", left);
    }
}
