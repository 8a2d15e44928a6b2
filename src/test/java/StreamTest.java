/** Promises 17 and 18: streams, stream. */
public final class StreamTest {
    private static final Check CHECK = new Check();

    public static void main(String[] args) {
        noStreams();
        severalWays();
        aSinkThatIsPassed();
        aSourceThatIsPassed();
        aRing();
        aRingAtTheSource();
        whatGivesOut();
        whereThereIsNoFlow();
        wrongNumbers();
        longest();
        CHECK.end();
    }

    private static void noStreams() {
        due(new GreatestFlow());
        due(Build.nodes(1, 2));
        GreatestFlow ring = Build.nodes(0, 0);
        Build.arcs(ring, Build.arc(0, 1, 2, 3), Build.arc(1, 0, 0, 3));
        due(ring);
    }

    private static void severalWays() {
        GreatestFlow x = Build.nodes(1, 0, 0, 2);
        Build.arcs(x, Build.arc(0, 1, 0, 4), Build.arc(0, 2, 0, 4), Build.arc(1, 3, 0, 4),
                Build.arc(2, 3, 0, 2), Build.arc(2, 1, 0, 9));
        // The first greatest FLOW: 2, 4, 4, 2, 2.
        due(x, stream(2, 0, 2), stream(2, 1, 3), stream(2, 1, 4, 2));
        x.drop(4);
        due(x, stream(4, 0, 2), stream(2, 1, 3));
    }

    private static void aSinkThatIsPassed() {
        GreatestFlow x = Build.nodes(1, 2, 2);
        Build.arcs(x, Build.arc(0, 1, 5, 5), Build.arc(1, 2, 3, 3));
        due(x, stream(2, 0), stream(3, 0, 1));
    }

    private static void aSourceThatIsPassed() {
        GreatestFlow x = Build.nodes(1, 1, 2);
        Build.arcs(x, Build.arc(0, 1, 2, 2), Build.arc(1, 2, 0, 5));
        due(x, stream(2, 0, 1), stream(3, 1));
    }

    private static void aRing() {
        GreatestFlow x = Build.nodes(1, 0, 0, 2);
        Build.arcs(x, Build.arc(0, 1, 0, 5), Build.arc(1, 2, 2, 2), Build.arc(2, 1, 0, 5), Build.arc(1, 3, 0, 5));
        due(x, stream(5, 0, 3));
    }

    private static void aRingAtTheSource() {
        GreatestFlow x = Build.nodes(1, 0, 2);
        Build.arcs(x, Build.arc(0, 1, 1, 3), Build.arc(1, 0, 1, 1), Build.arc(1, 2, 0, 2));
        due(x, stream(2, 0, 2));
    }

    private static void whatGivesOut() {
        // SOURCE 0 gives 3, SOURCE 1 gives 4; SINK 3 takes 2, SINK 4 takes 5; ARCS in the order of the walk.
        GreatestFlow x = Build.nodes(1, 1, 0, 2, 2);
        Build.arcs(x, Build.arc(0, 2, 0, 3), Build.arc(1, 2, 0, 4), Build.arc(2, 3, 0, 2), Build.arc(2, 4, 0, 5));
        due(x, stream(2, 0, 2), stream(1, 0, 3), stream(4, 1, 3));
    }

    private static void whereThereIsNoFlow() {
        GreatestFlow x = Build.nodes(0, 0);
        Build.arcs(x, Build.arc(0, 1, 1, 1));
        CHECK.due("none: streams()", x.streams(), -3);
        CHECK.due("none: stream(0, 0)", x.stream(0, 0), -3);
        CHECK.due("none: stream(-1, 0)", x.stream(-1, 0), -3);
        CHECK.due("none: stream(0, -1)", x.stream(0, -1), -3);
    }

    private static void wrongNumbers() {
        GreatestFlow x = Build.nodes(1, 2);
        Build.arcs(x, Build.arc(0, 1, 0, 6));
        int[] nots = {-1, 1, 2, Integer.MIN_VALUE, Integer.MAX_VALUE};
        for (int no : nots) {
            CHECK.due("stream(" + no + ", 0)", x.stream(no, 0), -1);
            CHECK.due("stream(" + no + ", -1): the first refusal", x.stream(no, -1), -1);
        }
        CHECK.due("stream(0, -1)", x.stream(0, -1), -2);
        CHECK.due("stream(0, MIN)", x.stream(0, Integer.MIN_VALUE), -2);
        CHECK.due("stream(0, 3)", x.stream(0, 3), -1);
        CHECK.due("stream(0, MAX)", x.stream(0, Integer.MAX_VALUE), -1);
        due(x, stream(6, 0));
    }

    private static void longest() {
        GreatestFlow x = Build.nodes(1, 0, 0, 0, 0, 0, 0, 0, 0, 2);
        for (int n = 0; n < 9; n++) {
            x.arc(n, n + 1, 0, 1000);
        }
        due(x, stream(1000, 0, 1, 2, 3, 4, 5, 6, 7, 8));
    }

    private static int[] stream(int amount, int... arcs) {
        int[] stream = new int[arcs.length + 2];
        stream[0] = amount;
        stream[1] = arcs.length;
        System.arraycopy(arcs, 0, stream, 2, arcs.length);
        return stream;
    }

    private static void due(GreatestFlow x, int[]... streams) {
        CHECK.due("streams()", x.streams(), streams.length);
        for (int k = 0; k < streams.length; k++) {
            for (int what = 0; what < streams[k].length; what++) {
                CHECK.due("stream(" + k + ", " + what + ")", x.stream(k, what), streams[k][what]);
            }
            CHECK.due("stream(" + k + ", behind its end)", x.stream(k, streams[k].length), -1);
        }
        CHECK.due("stream(" + streams.length + ", 0)", x.stream(streams.length, 0), -1);
    }
}
