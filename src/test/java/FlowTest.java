/** Promises 9 to 12: run, value, on, through; and the edges of a FLOW, its VALUE and the WAYS. */
public final class FlowTest {
    private static final int MIN = Integer.MIN_VALUE;
    private static final int MAX = Integer.MAX_VALUE;
    private static final int[] NOT_WAYS = {-1, 2, 3, MIN, MAX};
    private static final Check CHECK = new Check();

    public static void main(String[] args) {
        aGraphWithoutArcs();
        eachArcFromLeastToMost();
        whereItRestsBothAreTheSame();
        ofASourceNoLessGoes();
        ofASinkNoLessComes();
        neitherIsAboveTheBound();
        theBoundHoldsTheValue();
        theValueOverAllSources();
        theValueWithoutEnds();
        theLeastValue();
        theLeastValueByAFarRing();
        theLeastForArcZeroThenOne();
        andSoOnToTheLastArc();
        ofTwoSourcesTheLast();
        ofTwoSinksTheLast();
        theFirstLeastLikewise();
        noNeedlessRing();
        undoneOnTheWay();
        throughIsTheGreater();
        whereThereIsNoFlow();
        noSuchWayArcNode();
        runIsOneOrZero();
        CHECK.end();
    }

    private static void aGraphWithoutArcs() {
        GreatestFlow x = Build.nodes(1, 2, 0);
        x.bound(0, 0);
        CHECK.due("no ARCS: run()", x.run(), 1);
        CHECK.due("no ARCS: value(0)", x.value(0), 0);
        CHECK.due("no ARCS: value(1)", x.value(1), 0);
        CHECK.due("no ARCS: on(0, 0)", x.on(0, 0), -1);
        CHECK.due("no ARCS: through(0, 0)", x.through(0, 0), 0);
        CHECK.due("no ARCS: through(1, 2)", x.through(1, 2), 0);
    }

    /** "A FLOW tells a whole number for each ARC, LEAST to MOST." */
    private static void eachArcFromLeastToMost() {
        GreatestFlow x = Build.nodes(1, 2);
        Build.arcs(x, Build.arc(0, 1, 0, 5), Build.arc(0, 1, 2, 5), Build.arc(0, 1, 3, 3), Build.arc(0, 1, 0, 0));
        CHECK.due("the sum of the MOSTS", x.value(0), 13);
        CHECK.due("the sum of the LEASTS", x.value(1), 5);
        due(x, 0, 5, 5, 3, 0);
        due(x, 1, 0, 2, 3, 0);
        x.arc(0, 1, 1000, 1000);
        CHECK.due("with an ARC of 1000", x.on(1, 4), 1000);
    }

    /** "Where it rests both are the same" */
    private static void whereItRestsBothAreTheSame() {
        GreatestFlow x = Build.nodes(1, 0, 2);
        Build.arcs(x, Build.arc(0, 1, 4, 4), Build.arc(1, 2, 4, 4));
        CHECK.due("as much comes as goes", x.run(), 1);
        x.change(1, 3, 3);
        CHECK.due("1 more comes", x.run(), 0);
        x.change(1, 5, 5);
        CHECK.due("1 more goes", x.run(), 0);
        x.change(1, 0, 5);
        CHECK.due("it may be so again", x.run(), 1);
        CHECK.due("value(0)", x.value(0), 4);
    }

    /** "of a SOURCE no less GOES than COMES" */
    private static void ofASourceNoLessGoes() {
        GreatestFlow x = Build.nodes(1, 1, 2);
        Build.arcs(x, Build.arc(0, 1, 4, 4), Build.arc(1, 2, 5, 5));
        CHECK.due("1 more goes", x.run(), 1);
        CHECK.due("both SOURCES give", x.value(0), 5);
        x.change(1, 4, 4);
        CHECK.due("the same", x.run(), 1);
        CHECK.due("only the first SOURCE gives", x.value(0), 4);
        x.change(1, 3, 3);
        CHECK.due("1 less goes", x.run(), 0);
    }

    /** "of a SINK no less COMES than GOES" */
    private static void ofASinkNoLessComes() {
        GreatestFlow x = Build.nodes(1, 2, 2);
        Build.arcs(x, Build.arc(0, 1, 5, 5), Build.arc(1, 2, 4, 4));
        CHECK.due("1 more comes", x.run(), 1);
        CHECK.due("both SINKS take", x.value(0), 5);
        x.change(1, 5, 5);
        CHECK.due("the same", x.run(), 1);
        CHECK.due("only the last SINK takes", x.value(0), 5);
        x.change(1, 6, 6);
        CHECK.due("1 less comes", x.run(), 0);
    }

    /** "neither is above the BOUND", for NODES of each KIND that 3 come to or go from, or both. */
    private static void neitherIsAboveTheBound() {
        // The NODE with the BOUND is 1 in all of them.
        bounded("it rests", new int[] {1, 0, 2}, Build.arc(0, 1, 3, 3), Build.arc(1, 2, 3, 3));
        bounded("a ring", new int[] {0, 0}, Build.arc(0, 1, 3, 3), Build.arc(1, 0, 3, 3));
        bounded("a SOURCE that gives", new int[] {2, 1}, Build.arc(1, 0, 3, 3));
        bounded("a SOURCE to which 2 come", new int[] {1, 1, 2}, Build.arc(0, 1, 2, 2), Build.arc(1, 2, 3, 3));
        bounded("a SOURCE that gives none", new int[] {1, 1, 2}, Build.arc(0, 1, 3, 3), Build.arc(1, 2, 3, 3));
        bounded("a SINK that takes", new int[] {1, 2}, Build.arc(0, 1, 3, 3));
        bounded("a SINK from which 2 go", new int[] {1, 2, 2}, Build.arc(0, 1, 3, 3), Build.arc(1, 2, 2, 2));
        bounded("a SINK that takes none", new int[] {1, 2, 2}, Build.arc(0, 1, 3, 3), Build.arc(1, 2, 3, 3));
        bounded("of two ARCS", new int[] {1, 2}, Build.arc(0, 1, 1, 1), Build.arc(0, 1, 2, 2));
    }

    private static void bounded(String what, int[] kinds, int[]... arcs) {
        GreatestFlow x = Build.nodes(kinds);
        Build.arcs(x, arcs);
        CHECK.due(what + ", no BOUND", x.run(), 1);
        x.bound(1, 3);
        CHECK.due(what + ", BOUND 3", x.run(), 1);
        CHECK.due(what + ", through(0, 1)", x.through(0, 1), 3);
        x.bound(1, 2);
        CHECK.due(what + ", BOUND 2", x.run(), 0);
        x.bound(1, 0);
        CHECK.due(what + ", BOUND 0", x.run(), 0);
        x.bound(1, 4);
        CHECK.due(what + ", BOUND 4", x.run(), 1);
        x.bound(1, -1);
        CHECK.due(what + ", BOUND -1", x.run(), 1);
    }

    private static void theBoundHoldsTheValue() {
        GreatestFlow x = Build.nodes(1, 0, 2, 2);
        Build.arcs(x, Build.arc(0, 1, 0, 9), Build.arc(1, 2, 0, 9), Build.arc(2, 3, 0, 9));
        x.bound(2, 4);
        CHECK.due("a SINK's BOUND holds what COMES", x.value(0), 4);
        due(x, 0, 4, 4, 0);
        x.bound(2, -1);
        x.bound(0, 3);
        CHECK.due("a SOURCE's BOUND holds what GOES", x.value(0), 3);
        x.bound(0, -1);
        x.bound(1, 0);
        CHECK.due("BOUND 0", x.value(0), 0);
        CHECK.due("BOUND 0 without LEASTS bars nothing", x.run(), 1);
    }

    /** "The VALUE is the sum, over all SOURCES, of what GOES less what COMES." */
    private static void theValueOverAllSources() {
        GreatestFlow x = Build.nodes(1, 1, 0, 2, 2);
        Build.arcs(x, Build.arc(0, 2, 0, 5), Build.arc(1, 2, 1, 5), Build.arc(2, 3, 0, 3), Build.arc(2, 4, 0, 3));
        CHECK.due("several: value(0)", x.value(0), 6);
        CHECK.due("several: value(1)", x.value(1), 1);
        due(x, 0, 1, 5, 3, 3);
        due(x, 1, 0, 1, 0, 1);
        x = Build.nodes(1, 1, 2, 2);
        Build.arcs(x, Build.arc(0, 1, 2, 2), Build.arc(1, 2, 0, 5), Build.arc(2, 3, 3, 4));
        CHECK.due("one SOURCE behind another: value(0)", x.value(0), 5);
        CHECK.due("one SOURCE behind another: value(1)", x.value(1), 3);
        due(x, 0, 2, 5, 3);
        due(x, 1, 2, 3, 3);
        x = Build.nodes(1, 0, 2);
        Build.arcs(x, Build.arc(0, 1, 7, 7), Build.arc(1, 0, 4, 4), Build.arc(1, 2, 0, 9));
        CHECK.due("what comes back to a SOURCE is no VALUE", x.value(0), 3);
        CHECK.due("but goes through it", x.through(0, 0), 7);
    }

    private static void theValueWithoutEnds() {
        GreatestFlow x = Build.nodes(1, 1, 0);
        Build.arcs(x, Build.arc(0, 1, 0, 9), Build.arc(1, 2, 0, 9), Build.arc(2, 0, 2, 9));
        CHECK.due("no SINK: value(0)", x.value(0), 0);
        CHECK.due("no SINK: run()", x.run(), 1);
        due(x, 0, 2, 2, 2);
        x = Build.nodes(2, 2, 0);
        Build.arcs(x, Build.arc(0, 1, 0, 9), Build.arc(1, 2, 0, 9), Build.arc(2, 0, 2, 9));
        CHECK.due("no SOURCE: value(0)", x.value(0), 0);
        CHECK.due("no SOURCE: value(1)", x.value(1), 0);
        due(x, 1, 2, 2, 2);
        x.drop(0);
        CHECK.due("no way back: run()", x.run(), 0);
    }

    private static void theLeastValue() {
        // 3 come from the SOURCE and 1 may stay in a ring, so that ARC 2 tells 3 though the VALUE is but 2.
        GreatestFlow x = Build.nodes(1, 0, 0, 2);
        Build.arcs(x, Build.arc(0, 1, 0, 9), Build.arc(2, 1, 0, 1), Build.arc(1, 2, 3, 9), Build.arc(2, 3, 0, 9));
        CHECK.due("value(1) with a ring", x.value(1), 2);
        due(x, 1, 2, 1, 3, 2);
        CHECK.due("value(0)", x.value(0), 9);
        due(x, 0, 9, 0, 9, 9);
        x.change(1, 0, 3);
        CHECK.due("value(1): all of it in the ring", x.value(1), 0);
        due(x, 1, 0, 3, 3, 0);
    }

    /** No VALUE at all, though what must go on ARC 0 would come to the SINK sooner than back to the SOURCE. */
    private static void theLeastValueByAFarRing() {
        GreatestFlow x = Build.nodes(1, 2, 0, 0);
        Build.arcs(x, Build.arc(0, 1, 3, 9), Build.arc(1, 2, 0, 9), Build.arc(2, 3, 0, 9), Build.arc(3, 0, 0, 9));
        CHECK.due("value(1) of a far ring", x.value(1), 0);
        due(x, 1, 3, 3, 3, 3);
        CHECK.due("value(0) of a far ring", x.value(0), 9);
        due(x, 0, 9, 0, 0, 0);
        x.change(2, 0, 2);
        CHECK.due("value(1) of a narrow ring", x.value(1), 1);
        due(x, 1, 3, 2, 2, 2);
    }

    /** "of the FLOWS with the greatest VALUE the one that tells the least for ARC 0, of these for ARC 1" */
    private static void theLeastForArcZeroThenOne() {
        GreatestFlow x = Build.nodes(1, 2);
        Build.arcs(x, Build.arc(0, 1, 0, 5), Build.arc(0, 1, 0, 5), Build.arc(0, 1, 0, 5));
        x.bound(0, 7);
        due(x, 0, 0, 2, 5);
        x.change(0, 1, 5);
        due(x, 0, 1, 1, 5);
        x.bound(0, 5);
        due(x, 0, 1, 0, 4);
        x.drop(2);
        CHECK.due("of those that are there", x.on(0, 0), 1);
        CHECK.due("of those that are there", x.on(0, 1), 4);
        // Less on ARC 0 wins, though it costs more on all others.
        x = Build.nodes(1, 0, 0, 2);
        Build.arcs(x, Build.arc(0, 3, 0, 1), Build.arc(0, 1, 0, 1), Build.arc(1, 2, 0, 1), Build.arc(2, 3, 0, 1));
        x.bound(0, 1);
        due(x, 0, 0, 1, 1, 1);
    }

    /** "and so on": the last of all ARCS is the one that tells something. */
    private static void andSoOnToTheLastArc() {
        GreatestFlow x = Build.nodes(1, 2);
        for (int a = 0; a < 40; a++) {
            x.arc(0, 1, 0, 1);
        }
        x.bound(1, 1);
        int[] last = new int[40];
        last[39] = 1;
        due(x, 0, last);
        due(x, 1, new int[40]);
        x.drop(39);
        CHECK.due("on(0, 38), the last that is there", x.on(0, 38), 1);
        CHECK.due("on(0, 37)", x.on(0, 37), 0);
    }

    private static void ofTwoSourcesTheLast() {
        GreatestFlow x = Build.nodes(1, 1, 0, 2);
        Build.arcs(x, Build.arc(0, 2, 0, 5), Build.arc(1, 2, 0, 5), Build.arc(2, 3, 0, 5));
        due(x, 0, 0, 5, 5);
        CHECK.due("through the SOURCE that gives none", x.through(0, 0), 0);
        x.change(2, 2, 5);
        due(x, 1, 0, 2, 2);
    }

    private static void ofTwoSinksTheLast() {
        GreatestFlow x = Build.nodes(1, 0, 2, 2);
        Build.arcs(x, Build.arc(1, 2, 0, 5), Build.arc(1, 3, 0, 5), Build.arc(0, 1, 0, 5));
        due(x, 0, 0, 5, 5);
        CHECK.due("through the SINK that takes none", x.through(0, 2), 0);
        x.change(2, 2, 5);
        due(x, 1, 0, 2, 2);
    }

    /** "1 the FIRST LEAST, likewise with the least VALUE" */
    private static void theFirstLeastLikewise() {
        GreatestFlow x = Build.nodes(1, 0, 2);
        Build.arcs(x, Build.arc(0, 1, 0, 5), Build.arc(0, 1, 0, 5), Build.arc(1, 2, 7, 9));
        CHECK.due("value(1)", x.value(1), 7);
        due(x, 1, 2, 5, 7);
        CHECK.due("value(0)", x.value(0), 9);
        due(x, 0, 4, 5, 9);
        x.change(2, 0, 9);
        due(x, 1, 0, 0, 0);
    }

    private static void noNeedlessRing() {
        GreatestFlow x = Build.nodes(0, 0, 0);
        Build.arcs(x, Build.arc(0, 1, 0, 9), Build.arc(1, 2, 3, 9), Build.arc(2, 0, 0, 2), Build.arc(2, 0, 0, 9));
        CHECK.due("ring: run()", x.run(), 1);
        CHECK.due("ring: value(0)", x.value(0), 0);
        due(x, 0, 3, 3, 0, 3);
        due(x, 1, 3, 3, 0, 3);
        x.change(1, 0, 9);
        due(x, 0, 0, 0, 0, 0);
    }

    private static void undoneOnTheWay() {
        GreatestFlow x = Build.nodes(1, 0, 0, 2);
        Build.arcs(x, Build.arc(0, 1, 0, 4), Build.arc(0, 2, 0, 4), Build.arc(1, 3, 0, 4),
                Build.arc(2, 3, 0, 2), Build.arc(2, 1, 0, 9));
        CHECK.due("diamond: value(0)", x.value(0), 6);
        due(x, 0, 2, 4, 4, 2, 2);
        due(x, 1, 0, 0, 0, 0, 0);
        x.drop(4);
        CHECK.due("without the ARC across", x.value(0), 6);
        CHECK.due("on(0, 0)", x.on(0, 0), 4);
        CHECK.due("on(0, 1)", x.on(0, 1), 2);
    }

    /** "the greater of what COMES and GOES" */
    private static void throughIsTheGreater() {
        GreatestFlow x = Build.nodes(1, 1, 2, 2, 0);
        Build.arcs(x, Build.arc(0, 1, 2, 2), Build.arc(1, 2, 5, 6), Build.arc(2, 3, 3, 4));
        int[] greatest = {2, 6, 6, 3, 0};
        int[] least = {2, 5, 5, 3, 0};
        for (int node = 0; node < 5; node++) {
            CHECK.due("through(0, " + node + ")", x.through(0, node), greatest[node]);
            CHECK.due("through(1, " + node + ")", x.through(1, node), least[node]);
        }
    }

    private static void whereThereIsNoFlow() {
        GreatestFlow x = Build.nodes(1, 0, 2);
        Build.arcs(x, Build.arc(0, 1, 5, 9), Build.arc(1, 2, 0, 4));
        CHECK.due("none: run()", x.run(), 0);
        for (int way = 0; way < 2; way++) {
            CHECK.due("none: value", x.value(way), -3);
            CHECK.due("none: on", x.on(way, 1), -3);
            CHECK.due("none: through", x.through(way, 2), -3);
        }
        for (int no : NOT_WAYS) {
            CHECK.due("none: value(" + no + "), -1 before -3", x.value(no), -1);
            CHECK.due("none: on(" + no + ", 0), -1 before -3", x.on(no, 0), -1);
            CHECK.due("none: through(" + no + ", 0), -1 before -3", x.through(no, 0), -1);
        }
        CHECK.due("none: on(0, 2), -1 before -3", x.on(0, 2), -1);
        CHECK.due("none: through(0, 3), -1 before -3", x.through(0, 3), -1);
        x.change(1, 0, 5);
        CHECK.due("then: run()", x.run(), 1);
        CHECK.due("then: value(0)", x.value(0), 5);
    }

    /** "-1 (WAY, ARC)" */
    private static void noSuchWayArcNode() {
        GreatestFlow x = Build.nodes(1, 2);
        Build.arcs(x, Build.arc(0, 1, 0, 1), Build.arc(0, 1, 0, 1));
        x.drop(1);
        int[] nots = {-1, 2, 10, 40, MIN, MAX};
        for (int no : NOT_WAYS) {
            CHECK.due("value(" + no + ")", x.value(no), -1);
            CHECK.due("on(" + no + ", 0)", x.on(no, 0), -1);
            CHECK.due("through(" + no + ", 0)", x.through(no, 0), -1);
        }
        for (int no : nots) {
            for (int way = 0; way < 2; way++) {
                CHECK.due("on(" + way + ", " + no + ")", x.on(way, no), -1);
                CHECK.due("through(" + way + ", " + no + ")", x.through(way, no), -1);
            }
        }
        CHECK.due("on(0, 1), dropped", x.on(0, 1), -1);
        CHECK.due("on(1, 1), dropped", x.on(1, 1), -1);
        CHECK.due("on(0, 0)", x.on(0, 0), 1);
        CHECK.due("on(1, 0)", x.on(1, 0), 0);
    }

    /** "Whether there is a FLOW: 1 or 0", again after each change. */
    private static void runIsOneOrZero() {
        GreatestFlow x = new GreatestFlow();
        CHECK.due("no NODES", x.run(), 1);
        x.node();
        x.node();
        CHECK.due("no ARCS", x.run(), 1);
        x.arc(0, 1, 1, 1);
        CHECK.due("arc()", x.run(), 0);
        x.change(0, 0, 1);
        CHECK.due("change()", x.run(), 1);
        x.change(0, 1, 1);
        x.kind(0, 1);
        CHECK.due("kind(), no SINK yet", x.run(), 0);
        x.kind(1, 2);
        CHECK.due("kind()", x.run(), 1);
        x.bound(0, 0);
        CHECK.due("bound()", x.run(), 0);
        x.bound(0, 1);
        CHECK.due("bound() again", x.run(), 1);
        x.bound(0, 0);
        x.drop(0);
        CHECK.due("drop()", x.run(), 1);
        x.arc(0, 1, 1, 1);
        x.run();
        x.clear();
        CHECK.due("clear()", x.run(), 1);
    }

    private static void due(GreatestFlow x, int way, int... flow) {
        for (int a = 0; a < flow.length; a++) {
            CHECK.due("on(" + way + ", " + a + ")", x.on(way, a), flow[a]);
        }
    }
}
