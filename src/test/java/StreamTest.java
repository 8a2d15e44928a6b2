/** Promises 17 and 18: streams, stream; and the edges of STREAMS and RINGS. */
public final class StreamTest {
    private static final int MIN = Integer.MIN_VALUE;
    private static final int MAX = Integer.MAX_VALUE;
    private static final Check CHECK = new Check();

    public static void main(String[] args) {
        noStreams();
        oneStream();
        fromTheLeastSource();
        byTheLeastArc();
        atASinkThatHasToTakeItEnds();
        aSinkThatHasNothingToTake();
        aSourceThatIsPassed();
        theSourceHasLeastToGive();
        theSinkHasLeastToTake();
        anArcHasLeastLeft();
        aRing();
        aRingAtTheSource();
        aRingThatLeavesSomething();
        aRingBeforeAnother();
        aRingThroughASink();
        theFirstGreatestNotTheLeast();
        streamsHaveTheirArcsAfterDrops();
        whereThereIsNoFlow();
        noSuchStreamOrArc();
        whatBelowZero();
        theLongest();
        theLongestRing();
        theMost();
        CHECK.end();
    }

    /** "As long as some SOURCE has to GIVE": none has. */
    private static void noStreams() {
        due(new GreatestFlow());
        due(Build.nodes(1, 2));
        GreatestFlow ring = Build.nodes(0, 0);
        Build.arcs(ring, Build.arc(0, 1, 2, 3), Build.arc(1, 0, 0, 3));
        due(ring);
        ring.kind(0, 1);
        ring.kind(1, 1);
        due(ring);
        GreatestFlow shut = Build.nodes(1, 2);
        Build.arcs(shut, Build.arc(0, 1, 0, 0));
        due(shut);
    }

    private static void oneStream() {
        GreatestFlow x = Build.nodes(1, 2);
        Build.arcs(x, Build.arc(0, 1, 0, 1));
        due(x, stream(1, 0));
        x.change(0, 0, 1000);
        due(x, stream(1000, 0));
    }

    /** "from the least such NODE on" */
    private static void fromTheLeastSource() {
        GreatestFlow x = Build.nodes(2, 1, 0, 1);
        Build.arcs(x, Build.arc(3, 0, 0, 2), Build.arc(3, 2, 0, 4), Build.arc(1, 2, 0, 3), Build.arc(2, 0, 0, 9));
        due(x, stream(3, 2, 3), stream(2, 0), stream(4, 1, 3));
    }

    /** "it goes on by the ARC of the least number that leads from there and has something LEFT" */
    private static void byTheLeastArc() {
        GreatestFlow x = Build.nodes(1, 0, 0, 2);
        Build.arcs(x, Build.arc(0, 1, 0, 4), Build.arc(0, 2, 0, 4), Build.arc(1, 3, 0, 4),
                Build.arc(2, 3, 0, 2), Build.arc(2, 1, 0, 9));
        // The first greatest FLOW: 2, 4, 4, 2, 2.
        due(x, stream(2, 0, 2), stream(2, 1, 3), stream(2, 1, 4, 2));
        x.drop(4);
        due(x, stream(4, 0, 2), stream(2, 1, 3));
        // The ARCS from NODE 1 have numbers below those that lead to it.
        x = Build.nodes(1, 0, 2);
        Build.arcs(x, Build.arc(1, 2, 0, 2), Build.arc(1, 2, 0, 3), Build.arc(0, 1, 0, 4), Build.arc(0, 1, 0, 1));
        due(x, stream(2, 2, 0), stream(2, 2, 1), stream(1, 3, 1));
    }

    /** "at a SINK that has to TAKE it ends", though ARCS lead on */
    private static void atASinkThatHasToTakeItEnds() {
        GreatestFlow x = Build.nodes(1, 2, 2);
        Build.arcs(x, Build.arc(0, 1, 5, 5), Build.arc(1, 2, 3, 3));
        due(x, stream(2, 0), stream(3, 0, 1));
    }

    /** "else it goes on" */
    private static void aSinkThatHasNothingToTake() {
        GreatestFlow x = Build.nodes(1, 2, 2);
        Build.arcs(x, Build.arc(0, 1, 5, 5), Build.arc(1, 2, 5, 5));
        due(x, stream(5, 0, 1));
    }

    private static void aSourceThatIsPassed() {
        GreatestFlow x = Build.nodes(1, 1, 2);
        Build.arcs(x, Build.arc(0, 1, 2, 2), Build.arc(1, 2, 0, 5));
        due(x, stream(2, 0, 1), stream(3, 1));
        x.change(1, 0, 2);
        due(x, stream(2, 0, 1));
    }

    /** "the least of what its SOURCE has to GIVE, ..": all else has more. */
    private static void theSourceHasLeastToGive() {
        // 2 that come to SOURCE 1 go on with its own 1, but it begins with that 1.
        GreatestFlow x = Build.nodes(2, 1, 1);
        Build.arcs(x, Build.arc(2, 1, 2, 2), Build.arc(1, 0, 3, 3));
        due(x, stream(1, 1), stream(2, 0, 1));
    }

    /** ".. its SINK to TAKE, ..": all else has more. */
    private static void theSinkHasLeastToTake() {
        GreatestFlow x = Build.nodes(1, 2, 2);
        Build.arcs(x, Build.arc(0, 1, 3, 3), Build.arc(1, 2, 2, 2));
        due(x, stream(1, 0), stream(2, 0, 1));
    }

    /** ".. its ARCS have LEFT": the first, one in between, the last has least. */
    private static void anArcHasLeastLeft() {
        GreatestFlow x = Build.nodes(1, 0, 0, 2);
        Build.arcs(x, Build.arc(0, 1, 0, 1), Build.arc(0, 1, 0, 8), Build.arc(1, 2, 0, 2), Build.arc(1, 2, 0, 7),
                Build.arc(2, 3, 0, 4), Build.arc(2, 3, 0, 5));
        due(x, stream(1, 0, 2, 4), stream(1, 1, 2, 4), stream(2, 1, 3, 4), stream(5, 1, 3, 5));
    }

    /** "Where it comes to a NODE at which it was, the ARCS since then are a RING" */
    private static void aRing() {
        GreatestFlow x = Build.nodes(1, 0, 0, 2);
        Build.arcs(x, Build.arc(0, 1, 0, 5), Build.arc(1, 2, 2, 2), Build.arc(2, 1, 0, 5), Build.arc(1, 3, 0, 5));
        due(x, stream(5, 0, 3));
    }

    private static void aRingAtTheSource() {
        GreatestFlow x = Build.nodes(1, 0, 2);
        Build.arcs(x, Build.arc(0, 1, 1, 3), Build.arc(1, 0, 1, 1), Build.arc(1, 2, 0, 2));
        due(x, stream(2, 0, 2));
    }

    /** "each has the least of what these have LEFT less; and it begins anew" */
    private static void aRingThatLeavesSomething() {
        // ARC 1 has 3, ARC 2 has 2: of the RING 1 is left on ARC 1, which goes on by ARC 3.
        GreatestFlow x = Build.nodes(1, 0, 0, 2);
        Build.arcs(x, Build.arc(0, 1, 5, 5), Build.arc(1, 2, 3, 3), Build.arc(2, 1, 2, 2), Build.arc(2, 3, 1, 1),
                Build.arc(1, 3, 4, 4));
        due(x, stream(1, 0, 1, 3), stream(4, 0, 4));
    }

    private static void aRingBeforeAnother() {
        // Two RINGS at NODE 1, then one at NODE 2.
        GreatestFlow x = Build.nodes(1, 0, 0, 2);
        Build.arcs(x, Build.arc(0, 1, 1, 1), Build.arc(1, 0, 0, 0), Build.arc(1, 2, 3, 3), Build.arc(2, 1, 1, 1),
                Build.arc(2, 1, 1, 1), Build.arc(2, 3, 4, 4), Build.arc(3, 2, 3, 3));
        due(x, stream(1, 0, 2, 5));
    }

    /** At a SINK that was passed as it had nothing to TAKE it comes to a RING as well. */
    private static void aRingThroughASink() {
        GreatestFlow x = Build.nodes(1, 2, 0, 2);
        Build.arcs(x, Build.arc(0, 1, 3, 3), Build.arc(1, 2, 2, 2), Build.arc(2, 1, 2, 2), Build.arc(1, 3, 3, 3));
        due(x, stream(3, 0, 3));
    }

    private static void theFirstGreatestNotTheLeast() {
        GreatestFlow x = Build.nodes(1, 2);
        Build.arcs(x, Build.arc(0, 1, 1, 5));
        CHECK.due("value(1)", x.value(1), 1);
        due(x, stream(5, 0));
        CHECK.due("value(1) again", x.value(1), 1);
        due(x, stream(5, 0));
    }

    private static void streamsHaveTheirArcsAfterDrops() {
        GreatestFlow x = Build.nodes(1, 0, 2);
        Build.arcs(x, Build.arc(0, 1, 0, 5), Build.arc(0, 2, 0, 3), Build.arc(1, 2, 0, 5), Build.arc(1, 2, 0, 1));
        due(x, stream(4, 0, 2), stream(1, 0, 3), stream(3, 1));
        x.drop(2);
        due(x, stream(1, 0, 3), stream(3, 1));
        x.arc(1, 2, 0, 9);
        due(x, stream(5, 0, 4), stream(3, 1));
        x.drop(0);
        due(x, stream(3, 1));
        x.drop(1);
        due(x);
    }

    /** "-3" before all else */
    private static void whereThereIsNoFlow() {
        GreatestFlow x = Build.nodes(0, 0);
        Build.arcs(x, Build.arc(0, 1, 1, 1));
        CHECK.due("none: streams()", x.streams(), -3);
        CHECK.due("none: stream(0, 0)", x.stream(0, 0), -3);
        CHECK.due("none: stream(-1, 0)", x.stream(-1, 0), -3);
        CHECK.due("none: stream(0, -1)", x.stream(0, -1), -3);
        CHECK.due("none: stream(MAX, MIN)", x.stream(MAX, MIN), -3);
    }

    /** "-1 (STREAM, ARC)"; "STREAM k, from 0"; "2 + i ARC i" */
    private static void noSuchStreamOrArc() {
        GreatestFlow x = Build.nodes(1, 0, 2);
        Build.arcs(x, Build.arc(0, 1, 0, 2), Build.arc(0, 2, 0, 6), Build.arc(1, 2, 0, 2));
        due(x, stream(2, 0, 2), stream(6, 1));
        int[] nots = {-1, 2, 3, 50, MIN, MAX};
        for (int no : nots) {
            for (int what = 0; what < 4; what++) {
                CHECK.due("stream(" + no + ", " + what + ")", x.stream(no, what), -1);
            }
            CHECK.due("stream(" + no + ", -1), -1 before -2", x.stream(no, -1), -1);
        }
        int[] behind = {4, 5, 11, 12, MAX - 1, MAX};
        for (int what : behind) {
            CHECK.due("stream(0, " + what + ")", x.stream(0, what), -1);
        }
        CHECK.due("stream(1, 3), behind a shorter one", x.stream(1, 3), -1);
    }

    /** "-2 what is below 0" */
    private static void whatBelowZero() {
        GreatestFlow x = Build.nodes(1, 2);
        Build.arcs(x, Build.arc(0, 1, 0, 6));
        int[] below = {-1, -2, -3, MIN, MIN + 1, MIN + 2};
        for (int what : below) {
            CHECK.due("stream(0, " + what + ")", x.stream(0, what), -2);
        }
        due(x, stream(6, 0));
    }

    /** A way passes 10 NODES at most. */
    private static void theLongest() {
        GreatestFlow x = Build.nodes(1, 0, 0, 0, 0, 0, 0, 0, 0, 2);
        for (int n = 0; n < 9; n++) {
            x.arc(n, n + 1, 0, 1000);
        }
        due(x, stream(1000, 0, 1, 2, 3, 4, 5, 6, 7, 8));
        // A RING through all NODES.
        x.arc(9, 0, 5, 5);
        due(x, stream(995, 0, 1, 2, 3, 4, 5, 6, 7, 8));
        x.kind(9, 0);
        due(x);
    }

    /** All NODES but the SINK, where it would end. */
    private static void theLongestRing() {
        GreatestFlow x = Build.nodes(1, 0, 0, 0, 0, 0, 0, 0, 0, 2);
        for (int n = 0; n < 9; n++) {
            x.arc(n, (n + 1) % 9, 0, 7);
        }
        x.change(8, 2, 2);
        x.arc(8, 9, 0, 9);
        due(x, stream(5, 0, 1, 2, 3, 4, 5, 6, 7, 9));
    }

    private static void theMost() {
        GreatestFlow x = Build.nodes(1, 2);
        int[][] all = new int[40][];
        for (int a = 0; a < 40; a++) {
            x.arc(0, 1, 0, a + 1);
            all[a] = stream(a + 1, a);
        }
        due(x, all);
    }

    private static int[] stream(int amount, int... arcs) {
        int[] stream = new int[arcs.length + 2];
        stream[0] = amount;
        stream[1] = arcs.length;
        System.arraycopy(arcs, 0, stream, 2, arcs.length);
        return stream;
    }

    private static void due(GreatestFlow x, int[]... streams) {
        CHECK.due("streams()", x.streams(), streams.length);
        for (int k = 0; k < streams.length; k++) {
            for (int what = 0; what < streams[k].length; what++) {
                CHECK.due("stream(" + k + ", " + what + ")", x.stream(k, what), streams[k][what]);
            }
            CHECK.due("stream(" + k + ", behind its end)", x.stream(k, streams[k].length), -1);
        }
        CHECK.due("stream(" + streams.length + ", 0)", x.stream(streams.length, 0), -1);
        CHECK.due("stream(-1, 0)", x.stream(-1, 0), -1);
    }
}
