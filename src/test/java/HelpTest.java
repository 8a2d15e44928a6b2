/** Promises 13 to 15: near, far, tight. */
public final class HelpTest {
    private static final int[] NOT_NUMBERS = {-1, 4, 40, Integer.MIN_VALUE, Integer.MAX_VALUE};
    private static final Check CHECK = new Check();

    public static void main(String[] args) {
        path();
        boundsOfNodes();
        leasts();
        widest();
        noSourceOrNoSink();
        whereThereIsNoFlow();
        wrongNumbers();
        questionsChangeNothing();
        CHECK.end();
    }

    private static GreatestFlow pathOf(int first, int second, int third) {
        GreatestFlow x = Build.nodes(1, 0, 0, 2);
        Build.arcs(x, Build.arc(0, 1, 0, first), Build.arc(1, 2, 0, second), Build.arc(2, 3, 0, third));
        return x;
    }

    private static void path() {
        GreatestFlow x = pathOf(5, 3, 5);
        nodes(x, 1, 1, 0);
        nodes(x, 2, 0, 1);
        tights(x, 0, 1, 0);
        x = pathOf(3, 3, 5);
        nodes(x, 1, 0, 0);
        nodes(x, 2, 0, 1);
        tights(x, 0, 0, 0);
        x = pathOf(3, 5, 5);
        nodes(x, 1, 0, 1);
        nodes(x, 2, 0, 1);
        tights(x, 1, 0, 0);
        x = pathOf(5, 5, 0);
        nodes(x, 1, 1, 0);
        nodes(x, 2, 1, 0);
        tights(x, 0, 0, 1);
    }

    private static void boundsOfNodes() {
        GreatestFlow x = pathOf(9, 5, 9);
        x.bound(1, 5);
        nodes(x, 1, 0, 0);
        tights(x, 0, 0, 0);
        x.bound(1, 6);
        nodes(x, 1, 1, 0);
        tights(x, 0, 1, 0);
        x.bound(0, 5);
        nodes(x, 1, 0, 0);
        tights(x, 0, 0, 0);
    }

    private static void leasts() {
        // ARC 3 must lead 1 back from the SINK, so the SINK takes 4 + 3 - 1.
        GreatestFlow x = Build.nodes(1, 0, 2);
        Build.arcs(x, Build.arc(0, 1, 0, 9), Build.arc(1, 2, 0, 4), Build.arc(1, 2, 2, 3), Build.arc(2, 1, 1, 1));
        CHECK.due("leasts: value(0)", x.value(0), 6);
        nodes(x, 1, 1, 0);
        tights(x, 0, 1, 1, 0);
    }

    private static void widest() {
        GreatestFlow x = Build.nodes(1, 2);
        Build.arcs(x, Build.arc(0, 1, 0, 1000));
        CHECK.due("tight with MOST 1001", x.tight(0), 1);
        x.bound(0, 1000);
        CHECK.due("not tight behind a BOUND", x.tight(0), 0);
        x.bound(0, 1001);
        CHECK.due("tight before a BOUND", x.tight(0), 1);
        x.change(0, 1000, 1000);
        CHECK.due("tight with LEAST 1000", x.tight(0), 1);
        CHECK.due("value(0) after the questions", x.value(0), 1000);
    }

    private static void noSourceOrNoSink() {
        GreatestFlow x = Build.nodes(1, 0, 0);
        Build.arcs(x, Build.arc(0, 1, 0, 2), Build.arc(1, 2, 0, 2));
        nodes(x, 1, 1, 0);
        nodes(x, 2, 1, 0);
        tights(x, 0, 0);
        x.kind(0, 0);
        nodes(x, 0, 0, 0);
        nodes(x, 2, 0, 0);
        x.kind(2, 2);
        nodes(x, 0, 0, 1);
        nodes(x, 1, 0, 1);
    }

    private static void whereThereIsNoFlow() {
        GreatestFlow x = Build.nodes(1, 0, 0);
        Build.arcs(x, Build.arc(0, 1, 1, 2), Build.arc(1, 2, 0, 2));
        CHECK.due("none: near(1)", x.near(1), -3);
        CHECK.due("none: far(1)", x.far(1), -3);
        CHECK.due("none: tight(0)", x.tight(0), -3);
        CHECK.due("none: near(0)", x.near(0), -2);
        CHECK.due("none: far(0)", x.far(0), -2);
        CHECK.due("none: near(3)", x.near(3), -1);
        CHECK.due("none: far(3)", x.far(3), -1);
        CHECK.due("none: tight(2)", x.tight(2), -1);
    }

    private static void wrongNumbers() {
        GreatestFlow x = pathOf(1, 1, 1);
        for (int no : NOT_NUMBERS) {
            CHECK.due("near(" + no + ")", x.near(no), -1);
            CHECK.due("far(" + no + ")", x.far(no), -1);
            CHECK.due("tight(" + no + ")", x.tight(no), -1);
        }
        CHECK.due("near of a SOURCE", x.near(0), -2);
        CHECK.due("far of a SOURCE", x.far(0), -2);
        CHECK.due("near of a SINK", x.near(3), -2);
        CHECK.due("far of a SINK", x.far(3), -2);
        x.drop(1);
        CHECK.due("tight of a dropped ARC", x.tight(1), -1);
    }

    private static void questionsChangeNothing() {
        GreatestFlow x = pathOf(5, 3, 5);
        x.near(1);
        x.far(2);
        x.tight(1);
        CHECK.due("value(0) after questions", x.value(0), 3);
        CHECK.due("on(0, 0) after questions", x.on(0, 0), 3);
        CHECK.due("kind(1, 0) after questions", x.kind(1, 0), 0);
        CHECK.due("kind(2, 0) after questions", x.kind(2, 0), 0);
        CHECK.due("value(0) then", x.value(0), 3);
        CHECK.due("tight(1) again", x.tight(1), 1);
    }

    private static void nodes(GreatestFlow x, int node, int near, int far) {
        CHECK.due("near(" + node + ")", x.near(node), near);
        CHECK.due("far(" + node + ")", x.far(node), far);
    }

    private static void tights(GreatestFlow x, int... due) {
        for (int a = 0; a < due.length; a++) {
            CHECK.due("tight(" + a + ")", x.tight(a), due[a]);
        }
    }
}
