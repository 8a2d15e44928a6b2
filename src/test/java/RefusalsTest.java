/**
 * "REFUSALS change nothing and answer, the first that fits": each refusal of each call, its answer, and that
 * the object is as its twin afterwards, which refuses before it touches anything.
 */
public final class RefusalsTest {
    private static final int MIN = Integer.MIN_VALUE;
    private static final int MAX = Integer.MAX_VALUE;
    private static final int NODES = 5;
    private static final int ARCS = 7;
    private static final int DROPPED = 4;
    private static final int[] NOT_NODES = {-1, NODES, 10, MIN, MAX};
    private static final int[] NOT_ARCS = {-1, DROPPED, ARCS, 40, MIN, MAX};
    private static final int[] NOT_WAYS = {-1, 2, MIN, MAX};
    private static final int[] NOT_KINDS = {-1, 3, MIN, MAX};
    private static final int[] NOT_BOUNDS = {-2, 100001, MIN, MAX};
    private static final int[][] NOT_LEAST_MOST = {
        {-1, 3}, {MIN, 3}, {0, 1001}, {0, MAX}, {3, 2}, {1001, 1001}, {1, 0}, {-1, -1}, {0, -1}, {MAX, MIN}
    };
    private static final Check CHECK = new Check();

    private interface Scene {
        void build(Pair pair);
    }

    private interface Call {
        int on(Pair pair);
    }

    public static void main(String[] args) {
        node();
        kind();
        bound();
        arc();
        arcWithoutRoom();
        change();
        drop();
        value();
        onAnArc();
        throughANode();
        nearAndFar();
        tight();
        barred();
        streams();
        stream();
        whereThereIsNothing();
        CHECK.end();
    }

    private static void node() {
        refused(RefusalsTest::full, -4, Pair::node);
    }

    private static void kind() {
        for (int no : NOT_NODES) {
            refused(RefusalsTest::withFlow, -1, pair -> pair.kind(no, 1));
            refused(RefusalsTest::withFlow, -1, pair -> pair.kind(no, 3));
        }
        for (int no : NOT_KINDS) {
            for (int node = 0; node < NODES; node++) {
                int asked = node;
                refused(RefusalsTest::withFlow, -2, pair -> pair.kind(asked, no));
            }
        }
        refused(RefusalsTest::full, -1, pair -> pair.kind(10, 1));
        refused(RefusalsTest::full, -2, pair -> pair.kind(9, 3));
    }

    private static void bound() {
        for (int no : NOT_NODES) {
            refused(RefusalsTest::withFlow, -1, pair -> pair.bound(no, 1));
            refused(RefusalsTest::withFlow, -1, pair -> pair.bound(no, 100001));
        }
        for (int no : NOT_BOUNDS) {
            for (int node = 0; node < 3; node++) {
                int asked = node;
                refused(pair -> path(pair, asked), -2, pair -> pair.bound(asked, no));
            }
        }
        refused(RefusalsTest::full, -1, pair -> pair.bound(10, 1));
        refused(RefusalsTest::full, -2, pair -> pair.bound(9, -2));
    }

    private static void arc() {
        for (int no : NOT_NODES) {
            refused(RefusalsTest::withFlow, -1, pair -> pair.arc(no, 3, 1, 3));
            refused(RefusalsTest::withFlow, -1, pair -> pair.arc(0, no, 1, 3));
            refused(RefusalsTest::withFlow, -1, pair -> pair.arc(no, no, 1, 3));
            refused(RefusalsTest::withFlow, -1, pair -> pair.arc(no, 3, 3, 1));
        }
        for (int node = 0; node < NODES; node++) {
            int both = node;
            refused(RefusalsTest::withFlow, -1, pair -> pair.arc(both, both, 0, 3));
            refused(RefusalsTest::withFlow, -1, pair -> pair.arc(both, both, 3, 0));
        }
        for (int[] no : NOT_LEAST_MOST) {
            refused(RefusalsTest::withFlow, -2, pair -> pair.arc(0, 3, no[0], no[1]));
        }
    }

    private static void arcWithoutRoom() {
        refused(RefusalsTest::full, -4, pair -> pair.arc(0, 9, 0, 5));
        refused(RefusalsTest::full, -4, pair -> pair.arc(0, 9, 5, 5));
        refused(RefusalsTest::full, -1, pair -> pair.arc(0, 10, 0, 5));
        refused(RefusalsTest::full, -1, pair -> pair.arc(-1, 9, 0, 5));
        refused(RefusalsTest::full, -1, pair -> pair.arc(9, 9, 0, 5));
        refused(RefusalsTest::full, -2, pair -> pair.arc(0, 9, 5, 4));
        refused(RefusalsTest::full, -1, pair -> pair.arc(9, 9, 5, 4));
        refused(RefusalsTest::fullOfDropped, -4, pair -> pair.arc(0, 1, 0, 5));
    }

    private static void change() {
        for (int no : NOT_ARCS) {
            refused(RefusalsTest::withFlow, -1, pair -> pair.change(no, 0, 1));
            refused(RefusalsTest::withFlow, -1, pair -> pair.change(no, 1, 0));
        }
        for (int[] no : NOT_LEAST_MOST) {
            refused(RefusalsTest::twoArcs, -2, pair -> pair.change(0, no[0], no[1]));
            refused(RefusalsTest::twoArcs, -2, pair -> pair.change(1, no[0], no[1]));
            refused(RefusalsTest::withoutFlow, -2, pair -> pair.change(2, no[0], no[1]));
        }
        refused(RefusalsTest::full, -1, pair -> pair.change(40, 0, 1));
        refused(RefusalsTest::full, -2, pair -> pair.change(39, 0, 1001));
    }

    private static void drop() {
        for (int no : NOT_ARCS) {
            refused(RefusalsTest::withFlow, -1, pair -> pair.drop(no));
            refused(RefusalsTest::withoutFlow, -1, pair -> pair.drop(no));
        }
        refused(RefusalsTest::full, -1, pair -> pair.drop(40));
        refused(RefusalsTest::fullOfDropped, -1, pair -> pair.drop(39));
    }

    private static void value() {
        for (int no : NOT_WAYS) {
            refused(RefusalsTest::withFlow, -1, pair -> pair.value(no));
            refused(RefusalsTest::withoutFlow, -1, pair -> pair.value(no));
        }
        refused(RefusalsTest::withoutFlow, -3, pair -> pair.value(0));
        refused(RefusalsTest::withoutFlow, -3, pair -> pair.value(1));
    }

    private static void onAnArc() {
        for (int no : NOT_WAYS) {
            refused(RefusalsTest::withFlow, -1, pair -> pair.on(no, 0));
            refused(RefusalsTest::withoutFlow, -1, pair -> pair.on(no, 0));
        }
        for (int no : NOT_ARCS) {
            refused(RefusalsTest::withFlow, -1, pair -> pair.on(0, no));
            refused(RefusalsTest::withFlow, -1, pair -> pair.on(1, no));
            refused(RefusalsTest::withoutFlow, -1, pair -> pair.on(0, no));
        }
        refused(RefusalsTest::full, -1, pair -> pair.on(0, 40));
        refused(RefusalsTest::withoutFlow, -3, pair -> pair.on(0, 0));
        refused(RefusalsTest::withoutFlow, -3, pair -> pair.on(1, ARCS - 1));
    }

    private static void throughANode() {
        for (int no : NOT_WAYS) {
            refused(RefusalsTest::withFlow, -1, pair -> pair.through(no, 0));
            refused(RefusalsTest::withoutFlow, -1, pair -> pair.through(no, 0));
        }
        for (int no : NOT_NODES) {
            refused(RefusalsTest::withFlow, -1, pair -> pair.through(0, no));
            refused(RefusalsTest::withFlow, -1, pair -> pair.through(1, no));
            refused(RefusalsTest::withoutFlow, -1, pair -> pair.through(0, no));
        }
        refused(RefusalsTest::full, -1, pair -> pair.through(0, 10));
        refused(RefusalsTest::withoutFlow, -3, pair -> pair.through(0, 0));
        refused(RefusalsTest::withoutFlow, -3, pair -> pair.through(1, NODES - 1));
    }

    private static void nearAndFar() {
        for (int no : NOT_NODES) {
            refused(RefusalsTest::withFlow, -1, pair -> pair.near(no));
            refused(RefusalsTest::withFlow, -1, pair -> pair.far(no));
            refused(RefusalsTest::withoutFlow, -1, pair -> pair.near(no));
            refused(RefusalsTest::withoutFlow, -1, pair -> pair.far(no));
        }
        int[] ends = {0, 3};
        for (int end : ends) {
            refused(RefusalsTest::withFlow, -2, pair -> pair.near(end));
            refused(RefusalsTest::withFlow, -2, pair -> pair.far(end));
            refused(RefusalsTest::withoutFlow, -2, pair -> pair.near(end));
            refused(RefusalsTest::withoutFlow, -2, pair -> pair.far(end));
        }
        refused(RefusalsTest::withoutFlow, -3, pair -> pair.near(1));
        refused(RefusalsTest::withoutFlow, -3, pair -> pair.far(1));
        refused(RefusalsTest::full, -1, pair -> pair.near(10));
        refused(RefusalsTest::full, -1, pair -> pair.far(10));
    }

    private static void tight() {
        for (int no : NOT_ARCS) {
            refused(RefusalsTest::withFlow, -1, pair -> pair.tight(no));
            refused(RefusalsTest::withoutFlow, -1, pair -> pair.tight(no));
        }
        refused(RefusalsTest::withoutFlow, -3, pair -> pair.tight(0));
        refused(RefusalsTest::full, -1, pair -> pair.tight(40));
    }

    private static void barred() {
        int[] any = {-1, 0, 1, 40, MIN, MAX};
        for (int k : any) {
            refused(RefusalsTest::withFlow, -2, pair -> pair.barred(k));
        }
        // ARCS 2 and 3 bar one another there.
        int[] not = {-1, 2, 3, 40, MIN, MAX};
        for (int k : not) {
            refused(RefusalsTest::withoutFlow, -1, pair -> pair.barred(k));
        }
    }

    private static void streams() {
        refused(RefusalsTest::withoutFlow, -3, Pair::streams);
    }

    private static void stream() {
        // Three STREAMS there, of 2, 3 and 2 ARCS.
        int[] lengths = {2, 3, 2};
        int[] not = {-1, 3, 4, MIN, MAX};
        for (int k : not) {
            refused(RefusalsTest::withFlow, -1, pair -> pair.stream(k, 0));
            refused(RefusalsTest::withFlow, -1, pair -> pair.stream(k, 2));
            refused(RefusalsTest::withFlow, -1, pair -> pair.stream(k, -1));
            refused(RefusalsTest::withoutFlow, -3, pair -> pair.stream(k, 0));
        }
        int[] below = {-1, -2, MIN, MIN + 1};
        for (int k = 0; k < lengths.length; k++) {
            int asked = k;
            int[] behind = {2 + lengths[k], 3 + lengths[k], 12, MAX - 1, MAX};
            for (int what : behind) {
                refused(RefusalsTest::withFlow, -1, pair -> pair.stream(asked, what));
            }
            for (int what : below) {
                refused(RefusalsTest::withFlow, -2, pair -> pair.stream(asked, what));
                refused(RefusalsTest::withoutFlow, -3, pair -> pair.stream(asked, what));
            }
        }
        refused(RefusalsTest::withoutFlow, -3, pair -> pair.stream(0, 0));
        refused(RefusalsTest::withoutFlow, -3, pair -> pair.stream(-1, -1));
    }

    private static void whereThereIsNothing() {
        Scene[] scenes = {RefusalsTest::empty, RefusalsTest::cleared};
        for (Scene scene : scenes) {
            refused(scene, -1, pair -> pair.kind(0, 1));
            refused(scene, -1, pair -> pair.bound(0, 1));
            refused(scene, -1, pair -> pair.arc(0, 1, 0, 1));
            refused(scene, -1, pair -> pair.arc(0, 0, 0, 1));
            refused(scene, -1, pair -> pair.change(0, 0, 1));
            refused(scene, -1, pair -> pair.drop(0));
            refused(scene, -1, pair -> pair.value(2));
            refused(scene, -1, pair -> pair.on(0, 0));
            refused(scene, -1, pair -> pair.through(0, 0));
            refused(scene, -1, pair -> pair.near(0));
            refused(scene, -1, pair -> pair.far(0));
            refused(scene, -1, pair -> pair.tight(0));
            refused(scene, -2, pair -> pair.barred(0));
            refused(scene, -1, pair -> pair.stream(0, 0));
            refused(scene, -1, pair -> pair.stream(0, -1));
        }
    }

    /** The call is refused both before anything was asked and when all answers were once told. */
    private static void refused(Scene scene, int want, Call call) {
        for (int asked = 0; asked < 2; asked++) {
            Pair pair = new Pair(new Halving(), CHECK);
            scene.build(pair);
            if (asked == 1) {
                askSome(pair);
            }
            int got = call.on(pair);
            CHECK.due("refusal " + pair.last(), got, want);
            pair.askAll();
            showNumbers(pair);
        }
    }

    /** One question of each kind. */
    private static void askSome(Pair pair) {
        pair.run();
        pair.value(0);
        pair.on(1, 0);
        pair.through(0, 1);
        pair.near(1);
        pair.far(1);
        pair.tight(0);
        pair.barred(0);
        pair.streams();
        pair.stream(0, 0);
    }

    /** KINDS, how many ARCS and NODES there are and which numbers come next can only be seen by changes. */
    private static void showNumbers(Pair pair) {
        for (int node = 0; node < pair.nodeNumbers(); node++) {
            pair.kind(node, 2 - node % 3);
        }
        pair.value(0);
        for (int arc = 0; arc < pair.arcNumbers(); arc += 3) {
            pair.drop(arc);
        }
        pair.arc(1, 0, 0, 2);
        pair.arc(0, 1, 1, 3);
        pair.node();
        pair.value(0);
        pair.value(1);
        pair.clear();
    }

    private static void empty(Pair pair) {
        CHECK.due("no NODES", pair.nodeNumbers(), 0);
    }

    private static void cleared(Pair pair) {
        withFlow(pair);
        pair.value(0);
        pair.clear();
    }

    /** Its VALUE is one NODE's BOUND. */
    private static void path(Pair pair, int bounded) {
        int[] kinds = {1, 0, 2};
        for (int kind : kinds) {
            pair.kind(pair.node(), kind);
        }
        pair.bound(bounded, 4);
        pair.arc(0, 1, 0, 9);
        pair.arc(1, 2, 0, 9);
    }

    /** Its greatest and least VALUE are the sums of the MOSTS and of the LEASTS. */
    private static void twoArcs(Pair pair) {
        pair.kind(pair.node(), 1);
        pair.kind(pair.node(), 2);
        pair.arc(0, 1, 2, 5);
        pair.arc(0, 1, 1, 30);
    }

    private static void withFlow(Pair pair) {
        int[] kinds = {1, 0, 0, 2, 0};
        for (int kind : kinds) {
            pair.kind(pair.node(), kind);
        }
        pair.bound(1, 3);
        pair.bound(3, 7);
        pair.arc(0, 1, 1, 9);
        pair.arc(0, 2, 1, 4);
        pair.arc(1, 3, 0, 9);
        pair.arc(2, 3, 2, 9);
        pair.arc(0, 3, 0, 50);
        pair.arc(1, 2, 0, 2);
        pair.arc(2, 4, 0, 2);
        pair.drop(DROPPED);
    }

    private static void withoutFlow(Pair pair) {
        withFlow(pair);
        pair.change(2, 3, 9);
        pair.change(3, 5, 9);
    }

    private static void full(Pair pair) {
        for (int node = 0; node < 10; node++) {
            pair.node();
        }
        pair.kind(0, 1);
        pair.kind(9, 2);
        pair.bound(9, 25);
        for (int arc = 0; arc < 40; arc++) {
            pair.arc(arc % 9, arc % 9 + 1, arc % 4 == 0 ? 1 : 0, 3 + arc % 5);
        }
        pair.drop(17);
    }

    private static void fullOfDropped(Pair pair) {
        pair.node();
        pair.node();
        for (int arc = 0; arc < 40; arc++) {
            pair.arc(0, 1, 0, arc);
        }
        for (int arc = 0; arc < 40; arc++) {
            pair.drop(arc);
        }
    }
}
