/** Promises 13 to 15: near, far, tight. */
public final class HelpTest {
    private static final int[] NOT_NUMBERS = {-1, 4, 10, 40, Integer.MIN_VALUE, Integer.MAX_VALUE};
    private static final Check CHECK = new Check();

    public static void main(String[] args) {
        nearAndFarOnAPath();
        asMuchIsNotMore();
        oneMoreIsEnough();
        boundsOfNodes();
        aNodeApart();
        leasts();
        undoneOnTheWay();
        tightOneMore();
        tightWithMost1001();
        tightWithMostZero();
        noSourceOrNoSink();
        anotherKind();
        whereThereIsNoFlow();
        wrongNumbers();
        questionsChangeNothing();
        CHECK.end();
    }

    private static GreatestFlow pathOf(int first, int second, int third) {
        GreatestFlow x = Build.nodes(1, 0, 0, 2);
        Build.arcs(x, Build.arc(0, 1, 0, first), Build.arc(1, 2, 0, second), Build.arc(2, 3, 0, third));
        return x;
    }

    /** "NEAR, if the greatest VALUE were more with it as a SINK; FAR, if it were more with it as a SOURCE" */
    private static void nearAndFarOnAPath() {
        GreatestFlow x = pathOf(5, 3, 5);
        nodes(x, 1, 1, 0);
        nodes(x, 2, 0, 1);
        tights(x, 0, 1, 0);
        x = pathOf(3, 3, 5);
        nodes(x, 1, 0, 0);
        nodes(x, 2, 0, 1);
        tights(x, 0, 0, 0);
        x = pathOf(3, 5, 5);
        nodes(x, 1, 0, 1);
        nodes(x, 2, 0, 1);
        tights(x, 1, 0, 0);
        x = pathOf(5, 5, 0);
        nodes(x, 1, 1, 0);
        nodes(x, 2, 1, 0);
        tights(x, 0, 0, 1);
    }

    /** As a SINK or a SOURCE a NODE may give the same VALUE on another way: that is not more. */
    private static void asMuchIsNotMore() {
        GreatestFlow x = pathOf(4, 4, 4);
        nodes(x, 1, 0, 0);
        nodes(x, 2, 0, 0);
        tights(x, 0, 0, 0);
    }

    private static void oneMoreIsEnough() {
        GreatestFlow x = pathOf(5, 4, 4);
        nodes(x, 1, 1, 0);
        nodes(x, 2, 0, 0);
        x = pathOf(4, 4, 5);
        nodes(x, 1, 0, 0);
        nodes(x, 2, 0, 1);
        x = pathOf(5, 4, 5);
        tights(x, 0, 1, 0);
    }

    private static void boundsOfNodes() {
        GreatestFlow x = pathOf(9, 5, 9);
        x.bound(1, 5);
        nodes(x, 1, 0, 0);
        tights(x, 0, 0, 0);
        x.bound(1, 6);
        nodes(x, 1, 1, 0);
        tights(x, 0, 1, 0);
        x.bound(0, 5);
        nodes(x, 1, 0, 0);
        tights(x, 0, 0, 0);
        x.bound(0, -1);
        x.bound(3, 5);
        nodes(x, 2, 0, 0);
        tights(x, 0, 0, 0);
        x.bound(3, 6);
        nodes(x, 2, 0, 1);
        x.bound(2, 5);
        nodes(x, 2, 0, 0);
        tights(x, 0, 0, 0);
    }

    private static void aNodeApart() {
        GreatestFlow x = Build.nodes(1, 2, 0, 0);
        Build.arcs(x, Build.arc(0, 1, 0, 5), Build.arc(0, 2, 0, 5), Build.arc(2, 1, 0, 5));
        nodes(x, 3, 0, 0);
        x.bound(2, 0);
        nodes(x, 2, 0, 0);
        tights(x, 1, 0, 0);
    }

    private static void leasts() {
        // ARC 3 must lead 1 back from the SINK, so the SINK takes 4 + 3 - 1.
        GreatestFlow x = Build.nodes(1, 0, 2);
        Build.arcs(x, Build.arc(0, 1, 0, 9), Build.arc(1, 2, 0, 4), Build.arc(1, 2, 2, 3), Build.arc(2, 1, 1, 1));
        CHECK.due("leasts: value(0)", x.value(0), 6);
        nodes(x, 1, 1, 0);
        tights(x, 0, 1, 1, 0);
        // What must go past NODE 1 can't be kept by it; what need not can.
        x = Build.nodes(1, 0, 2);
        Build.arcs(x, Build.arc(0, 1, 3, 3), Build.arc(1, 2, 3, 3));
        nodes(x, 1, 0, 0);
        x.change(0, 3, 4);
        nodes(x, 1, 1, 0);
        tights(x, 0, 1);
    }

    private static void undoneOnTheWay() {
        // The first greatest FLOW goes 0, 2, 1, 3; NODE 4 gets more only if ARC 2 tells less.
        GreatestFlow x = Build.nodes(1, 0, 0, 2, 0);
        Build.arcs(x, Build.arc(0, 1, 0, 2), Build.arc(0, 2, 0, 2), Build.arc(2, 1, 0, 2), Build.arc(1, 3, 0, 2),
                Build.arc(2, 4, 0, 2));
        CHECK.due("undone: on(0, 2)", x.on(0, 2), 2);
        nodes(x, 4, 1, 0);
        x.drop(0);
        nodes(x, 4, 0, 0);
    }

    /** "TIGHT, if the greatest VALUE were more with its MOST 1 more" */
    private static void tightOneMore() {
        GreatestFlow x = Build.nodes(1, 2);
        Build.arcs(x, Build.arc(0, 1, 0, 5), Build.arc(0, 1, 0, 5));
        tights(x, 1, 1);
        x.bound(0, 11);
        tights(x, 1, 1);
        x.bound(0, 10);
        tights(x, 0, 0);
        x.bound(0, 9);
        tights(x, 0, 0);
        // Two that are both full in one row help only together.
        x = pathOf(4, 4, 9);
        tights(x, 0, 0, 0);
        // An ARC that is not full is not TIGHT; nor is one back to the SOURCE.
        x = pathOf(3, 4, 4);
        x.arc(3, 0, 2, 2);
        tights(x, 1, 0, 0, 0);
    }

    /** "(with MOST 1001 as well)" */
    private static void tightWithMost1001() {
        GreatestFlow x = Build.nodes(1, 2);
        Build.arcs(x, Build.arc(0, 1, 0, 1000));
        CHECK.due("tight with MOST 1001", x.tight(0), 1);
        CHECK.due("which no ARC can have", x.change(0, 0, 1001), -2);
        x.bound(0, 1000);
        CHECK.due("not tight behind a BOUND", x.tight(0), 0);
        x.bound(0, 1001);
        CHECK.due("tight before a BOUND", x.tight(0), 1);
        x.change(0, 1000, 1000);
        CHECK.due("tight with LEAST 1000", x.tight(0), 1);
        CHECK.due("value(0) after the questions", x.value(0), 1000);
        x = Build.nodes(1, 2);
        for (int a = 0; a < 40; a++) {
            x.arc(0, 1, 0, 1000);
        }
        x.bound(0, 40001);
        CHECK.due("tight beside 39 others", x.tight(39), 1);
        x.bound(0, 40000);
        CHECK.due("not tight beside 39 others", x.tight(39), 0);
    }

    private static void tightWithMostZero() {
        GreatestFlow x = pathOf(9, 0, 9);
        tights(x, 0, 1, 0);
        CHECK.due("value(0) after it", x.value(0), 0);
    }

    private static void noSourceOrNoSink() {
        GreatestFlow x = Build.nodes(1, 0, 0);
        Build.arcs(x, Build.arc(0, 1, 0, 2), Build.arc(1, 2, 0, 2));
        nodes(x, 1, 1, 0);
        nodes(x, 2, 1, 0);
        tights(x, 0, 0);
        x.kind(0, 0);
        nodes(x, 0, 0, 0);
        nodes(x, 2, 0, 0);
        x.kind(2, 2);
        nodes(x, 0, 0, 1);
        nodes(x, 1, 0, 1);
    }

    /** "-2 it is not of KIND 0" */
    private static void anotherKind() {
        GreatestFlow x = pathOf(5, 3, 5);
        nodes(x, 0, -2, -2);
        nodes(x, 3, -2, -2);
        x.kind(1, 1);
        nodes(x, 1, -2, -2);
        x.kind(1, 2);
        nodes(x, 1, -2, -2);
        x.kind(1, 0);
        nodes(x, 1, 1, 0);
    }

    private static void whereThereIsNoFlow() {
        GreatestFlow x = Build.nodes(1, 0, 0, 2);
        Build.arcs(x, Build.arc(0, 1, 1, 2), Build.arc(1, 2, 0, 2));
        nodes(x, 1, -3, -3);
        nodes(x, 2, -3, -3);
        tights(x, -3, -3);
        // -1 and -2 before -3.
        nodes(x, 0, -2, -2);
        nodes(x, 3, -2, -2);
        nodes(x, 4, -1, -1);
        nodes(x, -1, -1, -1);
        CHECK.due("none: tight(2)", x.tight(2), -1);
        CHECK.due("none: tight(-1)", x.tight(-1), -1);
        // With it as a SINK there were a FLOW, but there is none.
        CHECK.due("NODE 2 was of KIND 0", x.kind(2, 2), 0);
        CHECK.due("run() then", x.run(), 1);
    }

    private static void wrongNumbers() {
        GreatestFlow x = pathOf(1, 1, 1);
        for (int no : NOT_NUMBERS) {
            CHECK.due("near(" + no + ")", x.near(no), -1);
            CHECK.due("far(" + no + ")", x.far(no), -1);
            CHECK.due("tight(" + no + ")", x.tight(no), -1);
        }
        CHECK.due("tight(3)", x.tight(3), -1);
        x.drop(1);
        CHECK.due("tight of a dropped ARC", x.tight(1), -1);
    }

    private static void questionsChangeNothing() {
        GreatestFlow x = pathOf(5, 3, 5);
        x.near(1);
        x.far(2);
        x.tight(1);
        CHECK.due("value(0) after questions", x.value(0), 3);
        CHECK.due("on(0, 0) after questions", x.on(0, 0), 3);
        CHECK.due("kind(1, 0) after questions", x.kind(1, 0), 0);
        CHECK.due("kind(2, 0) after questions", x.kind(2, 0), 0);
        CHECK.due("value(0) then", x.value(0), 3);
        CHECK.due("tight(1) again", x.tight(1), 1);
        CHECK.due("tight(1) once more", x.tight(1), 1);
    }

    private static void nodes(GreatestFlow x, int node, int near, int far) {
        CHECK.due("near(" + node + ")", x.near(node), near);
        CHECK.due("far(" + node + ")", x.far(node), far);
    }

    private static void tights(GreatestFlow x, int... due) {
        for (int a = 0; a < due.length; a++) {
            CHECK.due("tight(" + a + ")", x.tight(a), due[a]);
        }
    }
}
