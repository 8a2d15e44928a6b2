/** Promises 9 to 12: run, value, on, through. */
public final class FlowTest {
    private static final int[] NOT_WAYS = {-1, 2, 3, Integer.MIN_VALUE, Integer.MAX_VALUE};
    private static final Check CHECK = new Check();

    public static void main(String[] args) {
        noArcs();
        parallelArcs();
        diamond();
        severalSourcesAndSinks();
        aSourceThatIsPassed();
        boundsOfNodes();
        ringsOnly();
        whereThereIsNoFlow();
        wrongNumbers();
        CHECK.end();
    }

    private static void noArcs() {
        GreatestFlow x = Build.nodes(1, 2, 0);
        CHECK.due("no ARCS: run()", x.run(), 1);
        CHECK.due("no ARCS: value(0)", x.value(0), 0);
        CHECK.due("no ARCS: value(1)", x.value(1), 0);
        CHECK.due("no ARCS: through(0, 0)", x.through(0, 0), 0);
        CHECK.due("no ARCS: through(1, 2)", x.through(1, 2), 0);
    }

    private static void parallelArcs() {
        GreatestFlow x = Build.nodes(1, 2);
        Build.arcs(x, Build.arc(0, 1, 0, 5), Build.arc(0, 1, 2, 5), Build.arc(0, 1, 0, 3));
        CHECK.due("run()", x.run(), 1);
        CHECK.due("value(0)", x.value(0), 13);
        CHECK.due("value(1)", x.value(1), 2);
        x.bound(1, 9);
        CHECK.due("value(0) with a BOUND", x.value(0), 9);
        due(x, 0, 1, 5, 3);
        due(x, 1, 0, 2, 0);
        CHECK.due("through(0, 0)", x.through(0, 0), 9);
        CHECK.due("through(1, 1)", x.through(1, 1), 2);
    }

    private static void diamond() {
        GreatestFlow x = Build.nodes(1, 0, 0, 2);
        Build.arcs(x, Build.arc(0, 1, 0, 4), Build.arc(0, 2, 0, 4), Build.arc(1, 3, 0, 4),
                Build.arc(2, 3, 0, 2), Build.arc(2, 1, 0, 9));
        CHECK.due("diamond: value(0)", x.value(0), 6);
        due(x, 0, 2, 4, 4, 2, 2);
        due(x, 1, 0, 0, 0, 0, 0);
        x.drop(4);
        due(x, 0, 4, 2, 4, 2);
    }

    private static void severalSourcesAndSinks() {
        GreatestFlow x = Build.nodes(1, 1, 0, 2, 2);
        Build.arcs(x, Build.arc(0, 2, 0, 5), Build.arc(1, 2, 1, 5), Build.arc(2, 3, 0, 3), Build.arc(2, 4, 0, 3));
        CHECK.due("several: value(0)", x.value(0), 6);
        CHECK.due("several: value(1)", x.value(1), 1);
        due(x, 0, 1, 5, 3, 3);
        due(x, 1, 0, 1, 0, 1);
        CHECK.due("several: through(0, 2)", x.through(0, 2), 6);
        CHECK.due("several: through(1, 4)", x.through(1, 4), 1);
    }

    private static void aSourceThatIsPassed() {
        GreatestFlow x = Build.nodes(1, 1, 2, 2);
        Build.arcs(x, Build.arc(0, 1, 2, 2), Build.arc(1, 2, 0, 5), Build.arc(2, 3, 3, 4));
        CHECK.due("passed: value(0)", x.value(0), 5);
        CHECK.due("passed: value(1)", x.value(1), 3);
        due(x, 0, 2, 5, 3);
        due(x, 1, 2, 3, 3);
        CHECK.due("passed: more GOES", x.through(0, 1), 5);
        CHECK.due("passed: more COMES", x.through(0, 2), 5);
        // Of a SOURCE no less GOES than COMES: it can't take.
        x.change(1, 0, 1);
        CHECK.due("passed: a SOURCE does not take", x.run(), 0);
        x.change(2, 0, 4);
        x.change(0, 0, 2);
        CHECK.due("passed: value(0) then", x.value(0), 1);
        x.change(2, 2, 4);
        CHECK.due("passed: a SINK does not give", x.run(), 0);
    }

    private static void boundsOfNodes() {
        GreatestFlow x = Build.nodes(1, 0, 2, 2);
        Build.arcs(x, Build.arc(0, 1, 0, 9), Build.arc(1, 2, 0, 9), Build.arc(2, 3, 0, 9));
        x.bound(2, 4);
        CHECK.due("a SINK's BOUND holds what COMES", x.value(0), 4);
        due(x, 0, 4, 4, 0);
        x.bound(2, -1);
        x.bound(0, 3);
        CHECK.due("a SOURCE's BOUND holds what GOES", x.value(0), 3);
        x.bound(0, -1);
        x.bound(1, 0);
        CHECK.due("BOUND 0", x.value(0), 0);
        x.change(0, 1, 9);
        CHECK.due("LEAST above the BOUND", x.run(), 0);
        x.bound(1, 1);
        CHECK.due("LEAST at the BOUND", x.run(), 1);
        CHECK.due("value(1) at the BOUND", x.value(1), 1);
    }

    private static void ringsOnly() {
        GreatestFlow x = Build.nodes(0, 0, 0);
        Build.arcs(x, Build.arc(0, 1, 0, 9), Build.arc(1, 2, 3, 9), Build.arc(2, 0, 0, 2), Build.arc(2, 0, 0, 9));
        CHECK.due("ring: run()", x.run(), 1);
        CHECK.due("ring: value(0)", x.value(0), 0);
        due(x, 0, 3, 3, 0, 3);
        due(x, 1, 3, 3, 0, 3);
        x.bound(0, 2);
        CHECK.due("ring: run() with a BOUND", x.run(), 0);
    }

    private static void whereThereIsNoFlow() {
        GreatestFlow x = Build.nodes(1, 0, 2);
        Build.arcs(x, Build.arc(0, 1, 5, 9), Build.arc(1, 2, 0, 4));
        CHECK.due("none: run()", x.run(), 0);
        for (int way = 0; way < 2; way++) {
            CHECK.due("none: value", x.value(way), -3);
            CHECK.due("none: on", x.on(way, 1), -3);
            CHECK.due("none: through", x.through(way, 2), -3);
        }
        CHECK.due("none: value(2)", x.value(2), -1);
        CHECK.due("none: on(2, 0)", x.on(2, 0), -1);
        CHECK.due("none: on(0, 2)", x.on(0, 2), -1);
        CHECK.due("none: through(-1, 0)", x.through(-1, 0), -1);
        CHECK.due("none: through(0, 3)", x.through(0, 3), -1);
        x.change(1, 0, 5);
        CHECK.due("then: run()", x.run(), 1);
        CHECK.due("then: value(0)", x.value(0), 5);
    }

    private static void wrongNumbers() {
        GreatestFlow x = Build.nodes(1, 2);
        Build.arcs(x, Build.arc(0, 1, 0, 1), Build.arc(0, 1, 0, 1));
        x.drop(1);
        for (int no : NOT_WAYS) {
            CHECK.due("value(" + no + ")", x.value(no), -1);
            CHECK.due("on(" + no + ", 0)", x.on(no, 0), -1);
            CHECK.due("through(" + no + ", 0)", x.through(no, 0), -1);
            CHECK.due("on(0, " + no + ")", x.on(0, no), -1);
            CHECK.due("through(1, " + no + ")", x.through(1, no), -1);
        }
        CHECK.due("on(0, 1), dropped", x.on(0, 1), -1);
        CHECK.due("on(0, 0)", x.on(0, 0), 1);
    }

    private static void due(GreatestFlow x, int way, int... flow) {
        for (int a = 0; a < flow.length; a++) {
            CHECK.due("on(" + way + ", " + a + ")", x.on(way, a), flow[a]);
        }
    }
}
