/** Promises 1 to 8: a new object, node, kind, bound, arc, change, drop, clear; and the edges of a GRAPH. */
public final class GraphTest {
    private static final int MIN = Integer.MIN_VALUE;
    private static final int MAX = Integer.MAX_VALUE;
    private static final int[] NOT_NUMBERS = {-1, MIN, MAX};
    private static final int[][] LEAST_MOST = {{0, 0}, {0, 1}, {1, 1}, {0, 1000}, {999, 1000}, {1000, 1000}};
    private static final int[][] NOT_LEAST_MOST = {
        {-1, 0}, {-1, -1}, {-1, 1000}, {0, 1001}, {1000, 1001}, {1001, 1001}, {1, 0}, {1000, 999}, {0, -1},
        {MIN, 0}, {0, MAX}, {MIN, MAX}, {MAX, MIN}, {MAX, MAX}
    };
    private static final Check CHECK = new Check();

    public static void main(String[] args) {
        newObject();
        tenNodesAtMost();
        kindIsZeroAtFirst();
        kindAnswersWhatItWas();
        kindsAreZeroToTwo();
        noBoundAtFirst();
        boundsAreZeroTo100000OrNone();
        boundOfEachKind();
        fortyArcsAtMost();
        droppedArcsAreCounted();
        aNumberDoesNotComeAgain();
        arcsLeadToAnotherNode();
        leastAndMostOfAnArc();
        leastAndMostOfAChange();
        changeGivesOtherBounds();
        dropAnswersHowManyThereAre();
        aDroppedArcIsNoMore();
        clearAnswersHowManyThereWere();
        clearLeavesNothing();
        clearMakesRoom();
        theFirstRefusalThatFits();
        CHECK.end();
    }

    /** "GreatestFlow(): No NODES." */
    private static void newObject() {
        GreatestFlow x = new GreatestFlow();
        CHECK.due("new: kind(0, 0)", x.kind(0, 0), -1);
        CHECK.due("new: bound(0, 0)", x.bound(0, 0), -1);
        CHECK.due("new: arc(0, 1, 0, 0)", x.arc(0, 1, 0, 0), -1);
        CHECK.due("new: change(0, 0, 0)", x.change(0, 0, 0), -1);
        CHECK.due("new: drop(0)", x.drop(0), -1);
        CHECK.due("new: run()", x.run(), 1);
        CHECK.due("new: value(0)", x.value(0), 0);
        CHECK.due("new: value(1)", x.value(1), 0);
        CHECK.due("new: on(0, 0)", x.on(0, 0), -1);
        CHECK.due("new: through(0, 0)", x.through(0, 0), -1);
        CHECK.due("new: near(0)", x.near(0), -1);
        CHECK.due("new: far(0)", x.far(0), -1);
        CHECK.due("new: tight(0)", x.tight(0), -1);
        CHECK.due("new: barred(0)", x.barred(0), -2);
        CHECK.due("new: streams()", x.streams(), 0);
        CHECK.due("new: stream(0, 0)", x.stream(0, 0), -1);
        CHECK.due("new: clear()", x.clear(), 0);
        GreatestFlow y = new GreatestFlow();
        x.node();
        CHECK.due("objects do not share NODES", y.clear(), 0);
    }

    /** "NODES 0, 1, .. (10 at most)" */
    private static void tenNodesAtMost() {
        GreatestFlow x = new GreatestFlow();
        for (int i = 0; i < 10; i++) {
            CHECK.due("no NODE " + i + " yet", x.bound(i, 5), -1);
            CHECK.due("node()", x.node(), i);
            CHECK.due("NODE " + i + " is there", x.bound(i, 5), 1);
        }
        CHECK.due("node() without room", x.node(), -4);
        CHECK.due("node() without room again", x.node(), -4);
        CHECK.due("NODE 10 is not there", x.bound(10, 5), -1);
        CHECK.due("clear() of a full graph", x.clear(), 10);
    }

    /** "each of a KIND (.. 0 at first)" */
    private static void kindIsZeroAtFirst() {
        GreatestFlow x = withNodes(10);
        for (int i = 0; i < 10; i++) {
            CHECK.due("a new NODE rests", x.kind(i, i % 3), 0);
        }
    }

    /** "A NODE's KIND: what it was." */
    private static void kindAnswersWhatItWas() {
        GreatestFlow x = withNodes(3);
        int was = 0;
        int[] kinds = {0, 1, 1, 2, 2, 0, 2, 1, 0};
        for (int kind : kinds) {
            CHECK.due("kind(1, " + kind + ")", x.kind(1, kind), was);
            was = kind;
        }
        CHECK.due("kind of another NODE", x.kind(0, 2), 0);
        CHECK.due("kind of another NODE", x.kind(2, 1), 0);
        CHECK.due("kind(0, 0)", x.kind(0, 0), 2);
        CHECK.due("kind(2, 0)", x.kind(2, 0), 1);
    }

    /** "KIND (0 it rests, 1 a SOURCE, 2 a SINK)" */
    private static void kindsAreZeroToTwo() {
        GreatestFlow x = path();
        int[] nots = {-1, 3, MIN, MAX};
        for (int no : nots) {
            CHECK.due("kind(0, " + no + ")", x.kind(0, no), -2);
            CHECK.due("kind(1, " + no + ")", x.kind(1, no), -2);
        }
        CHECK.due("refused KINDS change no FLOW", x.value(0), 9);
        CHECK.due("a SOURCE", x.kind(0, 0), 1);
        CHECK.due("without a SOURCE", x.value(0), 0);
        CHECK.due("it rests", x.kind(0, 1), 0);
        CHECK.due("with a SOURCE", x.value(0), 9);
        CHECK.due("a SINK", x.kind(2, 0), 2);
        CHECK.due("without a SINK", x.value(0), 0);
    }

    /** "a BOUND (.. or -1: none, as at first)": 40 ARCS of 1000 are the most that can go. */
    private static void noBoundAtFirst() {
        GreatestFlow x = Build.nodes(1, 2);
        for (int a = 0; a < 40; a++) {
            x.arc(0, 1, 0, 1000);
        }
        CHECK.due("all that there can be", x.value(0), 40000);
        CHECK.due("bound(0, 100000)", x.bound(0, 100000), 1);
        CHECK.due("bound(1, 100000)", x.bound(1, 100000), 1);
        CHECK.due("the widest BOUND lets all through", x.value(0), 40000);
        CHECK.due("bound(0, 39999)", x.bound(0, 39999), 1);
        CHECK.due("one less", x.value(0), 39999);
        CHECK.due("bound(0, -1)", x.bound(0, -1), 1);
        CHECK.due("none again", x.value(0), 40000);
    }

    /** "BOUND (0 to 100000, or -1: none" */
    private static void boundsAreZeroTo100000OrNone() {
        GreatestFlow x = path();
        int[][] boundAndValue = {{-1, 9}, {0, 0}, {1, 1}, {8, 8}, {9, 9}, {10, 9}, {99999, 9}, {100000, 9}, {4, 4}};
        for (int[] one : boundAndValue) {
            CHECK.due("bound(1, " + one[0] + ")", x.bound(1, one[0]), 1);
            CHECK.due("value(0) with BOUND " + one[0], x.value(0), one[1]);
        }
        int[] nots = {-2, 100001, MIN, MAX};
        for (int no : nots) {
            CHECK.due("bound(1, " + no + ")", x.bound(1, no), -2);
            CHECK.due("value(0) after it", x.value(0), 4);
        }
    }

    private static void boundOfEachKind() {
        GreatestFlow x = path();
        for (int node = 0; node < 3; node++) {
            CHECK.due("bound(" + node + ", 3)", x.bound(node, 3), 1);
            CHECK.due("value(0) with it", x.value(0), 3);
            CHECK.due("bound(" + node + ", -1)", x.bound(node, -1), 1);
            CHECK.due("value(0) without it", x.value(0), 9);
        }
        x.bound(1, 5);
        x.kind(1, 2);
        CHECK.due("a NODE keeps its BOUND when its KIND changes", x.value(0), 5);
        x.bound(1, -1);
        CHECK.due("bound() changes no KIND", x.kind(1, 0), 2);
    }

    /** "ARCS 0, 1, .. (40 at most" */
    private static void fortyArcsAtMost() {
        GreatestFlow x = withNodes(2);
        for (int i = 0; i < 40; i++) {
            CHECK.due("no ARC " + i + " yet", x.change(i, 0, 0), -1);
            CHECK.due("arc()", x.arc(i % 2, 1 - i % 2, 0, i), i);
            CHECK.due("ARC " + i + " is there", x.change(i, 0, 1), 1);
        }
        CHECK.due("arc without room", x.arc(0, 1, 0, 1), -4);
        CHECK.due("arc without room again", x.arc(1, 0, 0, 1), -4);
        CHECK.due("ARC 40 is not there", x.change(40, 0, 1), -1);
        CHECK.due("all are there", x.drop(0), 39);
    }

    /** "those that were dropped counted" */
    private static void droppedArcsAreCounted() {
        GreatestFlow x = withNodes(2);
        for (int i = 0; i < 39; i++) {
            x.arc(0, 1, 0, 1);
        }
        for (int i = 0; i < 39; i++) {
            CHECK.due("drop(" + i + ")", x.drop(i), 38 - i);
        }
        CHECK.due("room for one more", x.arc(0, 1, 0, 1), 39);
        CHECK.due("no room, though there is but one", x.arc(0, 1, 0, 1), -4);
        CHECK.due("drop(39)", x.drop(39), 0);
        CHECK.due("no room, though there is none", x.arc(0, 1, 0, 1), -4);
    }

    /** "a number does not come again" */
    private static void aNumberDoesNotComeAgain() {
        GreatestFlow x = withNodes(2);
        CHECK.due("the first ARC", x.arc(0, 1, 0, 1), 0);
        x.drop(0);
        CHECK.due("behind the only one, dropped", x.arc(0, 1, 0, 2), 1);
        CHECK.due("the next", x.arc(0, 1, 0, 3), 2);
        x.drop(2);
        CHECK.due("behind the last one, dropped", x.arc(0, 1, 0, 4), 3);
        x.drop(1);
        CHECK.due("behind one in between, dropped", x.arc(0, 1, 0, 5), 4);
        CHECK.due("a dropped ARC is not there again", x.on(0, 2), -1);
    }

    /** "each from a NODE to another one"; "-1 no such NODES, both are the same" */
    private static void arcsLeadToAnotherNode() {
        GreatestFlow x = withNodes(3);
        for (int node = 0; node < 3; node++) {
            CHECK.due("both the same", x.arc(node, node, 0, 1), -1);
        }
        for (int no : NOT_NUMBERS) {
            CHECK.due("arc from " + no, x.arc(no, 1, 0, 1), -1);
            CHECK.due("arc to " + no, x.arc(1, no, 0, 1), -1);
            CHECK.due("arc from and to " + no, x.arc(no, no, 0, 1), -1);
        }
        CHECK.due("arc(0, 3, 0, 1)", x.arc(0, 3, 0, 1), -1);
        CHECK.due("arc(3, 0, 0, 1)", x.arc(3, 0, 0, 1), -1);
        CHECK.due("refused ARCS take no number", x.arc(0, 2, 0, 1), 0);
        CHECK.due("one more beside it", x.arc(0, 2, 0, 1), 1);
        CHECK.due("one back", x.arc(2, 0, 0, 1), 2);
        CHECK.due("none of the refused is there", x.drop(0), 2);
    }

    /** "LEAST and MOST (0 to 1000, LEAST at most MOST)" */
    private static void leastAndMostOfAnArc() {
        for (int[] one : LEAST_MOST) {
            GreatestFlow x = Build.nodes(1, 2);
            CHECK.due("arc(0, 1, " + one[0] + ", " + one[1] + ")", x.arc(0, 1, one[0], one[1]), 0);
            CHECK.due("its MOST", x.value(0), one[1]);
            CHECK.due("its LEAST", x.value(1), one[0]);
        }
        GreatestFlow x = Build.nodes(1, 2);
        for (int[] one : NOT_LEAST_MOST) {
            CHECK.due("arc(0, 1, " + one[0] + ", " + one[1] + ")", x.arc(0, 1, one[0], one[1]), -2);
        }
        CHECK.due("none of them is there", x.value(0), 0);
        CHECK.due("none of them took a number", x.arc(0, 1, 0, 1), 0);
    }

    private static void leastAndMostOfAChange() {
        GreatestFlow x = Build.nodes(1, 2);
        x.arc(0, 1, 3, 7);
        for (int[] one : LEAST_MOST) {
            CHECK.due("change(0, " + one[0] + ", " + one[1] + ")", x.change(0, one[0], one[1]), 1);
            CHECK.due("its MOST", x.value(0), one[1]);
            CHECK.due("its LEAST", x.value(1), one[0]);
        }
        x.change(0, 3, 7);
        for (int[] one : NOT_LEAST_MOST) {
            CHECK.due("change(0, " + one[0] + ", " + one[1] + ")", x.change(0, one[0], one[1]), -2);
            CHECK.due("its MOST is as it was", x.value(0), 7);
            CHECK.due("its LEAST is as it was", x.value(1), 3);
        }
    }

    /** "An ARC gets other bounds: 1." */
    private static void changeGivesOtherBounds() {
        GreatestFlow x = path();
        CHECK.due("change(0, 2, 7)", x.change(0, 2, 7), 1);
        CHECK.due("value(0) after it", x.value(0), 7);
        CHECK.due("value(1) after it", x.value(1), 2);
        CHECK.due("change to the same", x.change(0, 2, 7), 1);
        CHECK.due("value(0) after it", x.value(0), 7);
        CHECK.due("change(0, 1000, 1000)", x.change(0, 1000, 1000), 1);
        CHECK.due("run() after it", x.run(), 0);
        CHECK.due("change(0, 0, 0)", x.change(0, 0, 0), 1);
        CHECK.due("value(0) after it", x.value(0), 0);
        for (int no : NOT_NUMBERS) {
            CHECK.due("change(" + no + ", 0, 1)", x.change(no, 0, 1), -1);
        }
        CHECK.due("change(2, 0, 1)", x.change(2, 0, 1), -1);
        x.drop(0);
        CHECK.due("change of a dropped ARC", x.change(0, 0, 1), -1);
        CHECK.due("it takes no number", x.arc(0, 2, 0, 1), 2);
    }

    /** "An ARC is no more: how many there are." */
    private static void dropAnswersHowManyThereAre() {
        GreatestFlow x = withNodes(3);
        for (int i = 0; i < 4; i++) {
            x.arc(0, 2, 0, 1);
        }
        CHECK.due("drop(1)", x.drop(1), 3);
        CHECK.due("drop(1) again", x.drop(1), -1);
        CHECK.due("drop(4)", x.drop(4), -1);
        for (int no : NOT_NUMBERS) {
            CHECK.due("drop(" + no + ")", x.drop(no), -1);
        }
        CHECK.due("the first", x.drop(0), 2);
        CHECK.due("the last", x.drop(3), 1);
        x.arc(0, 1, 0, 1);
        CHECK.due("one of two", x.drop(2), 1);
        CHECK.due("the only one", x.drop(4), 0);
        CHECK.due("none is left", x.drop(4), -1);
    }

    private static void aDroppedArcIsNoMore() {
        GreatestFlow x = Build.nodes(1, 0, 2);
        Build.arcs(x, Build.arc(0, 2, 0, 1), Build.arc(0, 2, 0, 10), Build.arc(0, 2, 5, 100));
        CHECK.due("value(0)", x.value(0), 111);
        x.drop(1);
        CHECK.due("value(0) without ARC 1", x.value(0), 101);
        CHECK.due("through(0, 0) without ARC 1", x.through(0, 0), 101);
        CHECK.due("through(0, 2) without ARC 1", x.through(0, 2), 101);
        CHECK.due("on(0, 1), dropped", x.on(0, 1), -1);
        CHECK.due("tight(1), dropped", x.tight(1), -1);
        x.drop(2);
        CHECK.due("value(1) without its LEAST", x.value(1), 0);
        x.drop(0);
        CHECK.due("value(0) without ARCS", x.value(0), 0);
        CHECK.due("through(0, 0) without ARCS", x.through(0, 0), 0);
        CHECK.due("streams() without ARCS", x.streams(), 0);
        x.arc(0, 1, 1, 1);
        CHECK.due("a LEAST that bars all", x.run(), 0);
        x.drop(3);
        CHECK.due("and is dropped", x.run(), 1);
    }

    /** "No NODES any more: how many there were." */
    private static void clearAnswersHowManyThereWere() {
        for (int count = 0; count <= 10; count++) {
            GreatestFlow x = withNodes(count);
            CHECK.due("clear()", x.clear(), count);
            CHECK.due("clear() again", x.clear(), 0);
        }
        GreatestFlow x = withNodes(10);
        x.node();
        CHECK.due("clear() after a refused NODE", x.clear(), 10);
    }

    private static void clearLeavesNothing() {
        GreatestFlow x = path();
        x.bound(1, 4);
        x.drop(1);
        x.value(0);
        x.clear();
        CHECK.due("no NODES", x.kind(0, 0), -1);
        CHECK.due("no ARCS", x.on(0, 0), -1);
        CHECK.due("change(0, 0, 1)", x.change(0, 0, 1), -1);
        CHECK.due("drop(0)", x.drop(0), -1);
        CHECK.due("value(0)", x.value(0), 0);
        for (int i = 0; i < 3; i++) {
            CHECK.due("node() after clear", x.node(), i);
            CHECK.due("its KIND after clear", x.kind(i, i), 0);
        }
        CHECK.due("no ARC between the new NODES", x.value(0), 0);
        CHECK.due("arc after clear", x.arc(1, 0, 0, 9), 0);
        CHECK.due("arc after clear", x.arc(0, 2, 0, 9), 1);
        CHECK.due("no BOUND, no dropped ARC after clear", x.value(0), 9);
        CHECK.due("two ARCS after clear", x.drop(0), 1);
        GreatestFlow y = Build.nodes(0, 0);
        y.arc(0, 1, 1, 1);
        CHECK.due("no FLOW", y.run(), 0);
        y.clear();
        CHECK.due("a FLOW after clear", y.run(), 1);
        CHECK.due("barred(0) after clear", y.barred(0), -2);
    }

    private static void clearMakesRoom() {
        GreatestFlow x = withNodes(10);
        for (int i = 0; i < 40; i++) {
            x.arc(8, 9, 0, 1);
        }
        x.drop(39);
        x.clear();
        for (int i = 0; i < 10; i++) {
            CHECK.due("node() after clear", x.node(), i);
        }
        CHECK.due("no room again", x.node(), -4);
        for (int i = 0; i < 40; i++) {
            CHECK.due("arc after clear", x.arc(0, 1, 0, 1), i);
        }
        CHECK.due("no room again", x.arc(0, 1, 0, 1), -4);
        CHECK.due("all are there", x.drop(39), 39);
    }

    /** "the first that fits: -1 .., -2 .., -3 .., -4" */
    private static void theFirstRefusalThatFits() {
        GreatestFlow x = withNodes(3);
        CHECK.due("kind: -1 before -2", x.kind(3, 3), -1);
        CHECK.due("bound: -1 before -2", x.bound(3, -2), -1);
        CHECK.due("arc: -1 before -2", x.arc(0, 3, 2, 1), -1);
        CHECK.due("arc, both the same: -1 before -2", x.arc(2, 2, 2, 1), -1);
        CHECK.due("change: -1 before -2", x.change(0, 2, 1), -1);
        for (int i = 0; i < 40; i++) {
            x.arc(0, 1, 0, 1);
        }
        CHECK.due("arc: -1 before -4", x.arc(0, 3, 0, 1), -1);
        CHECK.due("arc, both the same: -1 before -4", x.arc(0, 0, 0, 1), -1);
        CHECK.due("arc: -2 before -4", x.arc(0, 1, 2, 1), -2);
        CHECK.due("arc: -4", x.arc(0, 1, 1, 2), -4);
    }

    private static GreatestFlow withNodes(int count) {
        GreatestFlow x = new GreatestFlow();
        for (int i = 0; i < count; i++) {
            x.node();
        }
        return x;
    }

    private static GreatestFlow path() {
        GreatestFlow x = Build.nodes(1, 0, 2);
        Build.arcs(x, Build.arc(0, 1, 0, 9), Build.arc(1, 2, 0, 12));
        return x;
    }
}
