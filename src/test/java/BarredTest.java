/** Promise 16: barred; and the edges of THE BARRED. */
public final class BarredTest {
    private static final int MIN = Integer.MIN_VALUE;
    private static final int MAX = Integer.MAX_VALUE;
    private static final Check CHECK = new Check();

    public static void main(String[] args) {
        whereThereIsAFlow();
        oneArc();
        leastAboveZero();
        fromTheGreatestNumberDown();
        together();
        itsLeastIsZeroOrItsOwn();
        byABound();
        dropped();
        askedOutOfOrder();
        changesNothing();
        afterEachChange();
        all();
        CHECK.end();
    }

    /** "-2 there is a FLOW", whatever k is */
    private static void whereThereIsAFlow() {
        int[] any = {0, 1, -1, 40, MIN, MAX};
        GreatestFlow empty = new GreatestFlow();
        GreatestFlow x = Build.nodes(1, 2);
        Build.arcs(x, Build.arc(0, 1, 3, 5));
        for (int k : any) {
            CHECK.due("no NODES: barred(" + k + ")", empty.barred(k), -2);
            CHECK.due("a FLOW: barred(" + k + ")", x.barred(k), -2);
        }
    }

    /** "ARC k, from 0"; "-1 there is none such" */
    private static void oneArc() {
        GreatestFlow x = Build.nodes(0, 0);
        Build.arcs(x, Build.arc(0, 1, 3, 5));
        due(x, 0);
        int[] nots = {-1, 1, 2, 40, MIN, MAX};
        for (int no : nots) {
            CHECK.due("barred(" + no + ")", x.barred(no), -1);
        }
        x.change(0, 0, 5);
        CHECK.due("then there is a FLOW", x.barred(0), -2);
    }

    /** "of the ARCS with LEAST above 0" */
    private static void leastAboveZero() {
        GreatestFlow x = Build.nodes(0, 0);
        Build.arcs(x, Build.arc(0, 1, 0, 5), Build.arc(0, 1, 1, 1), Build.arc(0, 1, 0, 0));
        due(x, 1);
        x.change(1, 1000, 1000);
        due(x, 1);
        x.change(1, 0, 1000);
        CHECK.due("no LEAST above 0 bars", x.barred(0), -2);
    }

    /** "from the one with the greatest number down, each gets LEAST 0, if there is still no FLOW then" */
    private static void fromTheGreatestNumberDown() {
        // Each ARC alone is barred by its missing way back; only the least number stays.
        GreatestFlow x = Build.nodes(0, 0);
        Build.arcs(x, Build.arc(0, 1, 1, 2), Build.arc(0, 1, 1, 2), Build.arc(0, 1, 1, 2));
        due(x, 0);
        x.change(0, 0, 2);
        due(x, 1);
        x.change(1, 0, 2);
        due(x, 2);
    }

    /** "those that keep theirs", "by numbers" */
    private static void together() {
        // The SINK lets only 5 in, the LEASTS are 3, 1, 4, 2.
        GreatestFlow x = Build.nodes(1, 2);
        x.bound(1, 5);
        Build.arcs(x, Build.arc(0, 1, 3, 9), Build.arc(0, 1, 1, 9), Build.arc(0, 1, 4, 9), Build.arc(0, 1, 2, 9));
        // Without ARC 3: 8, no FLOW. Without ARC 2 as well: 4, which fits, so it stays. Without ARC 1: 7,
        // no FLOW. Without ARC 0: 4, which fits.
        due(x, 0, 2);
        x.change(2, 1, 9);
        // 3, 1, 1, 2: without ARC 3: 5, it stays. Without ARC 2: 6. Without ARC 1: 5, it stays, so does ARC 0.
        due(x, 0, 1, 3);
    }

    /** An ARC that is needed keeps its whole LEAST for those that come after it. */
    private static void itsLeastIsZeroOrItsOwn() {
        GreatestFlow x = Build.nodes(1, 0, 2);
        Build.arcs(x, Build.arc(0, 1, 5, 9), Build.arc(1, 2, 2, 4), Build.arc(0, 2, 3, 3));
        x.bound(2, 7);
        // NODE 1 gets 5 at least and lets only 4 on, whatever ARCS 1 and 2 tell.
        due(x, 0);
        x.change(1, 2, 9);
        // 5 + 3 come to the SINK: without ARC 2: 5, it stays; without ARC 1: none yet; without ARC 0: 5, it stays.
        due(x, 0, 2);
    }

    private static void byABound() {
        GreatestFlow x = Build.nodes(1, 0, 2);
        Build.arcs(x, Build.arc(0, 1, 1, 9), Build.arc(1, 2, 4, 9));
        x.bound(1, 4);
        CHECK.due("at the BOUND", x.barred(0), -2);
        x.bound(1, 3);
        due(x, 1);
        x.bound(1, 0);
        due(x, 0);
    }

    private static void dropped() {
        GreatestFlow x = Build.nodes(1, 0, 2);
        Build.arcs(x, Build.arc(0, 1, 5, 5), Build.arc(1, 2, 0, 2), Build.arc(1, 2, 0, 2), Build.arc(0, 1, 1, 1));
        due(x, 0);
        x.drop(0);
        CHECK.due("without it there is a FLOW", x.barred(0), -2);
        x.drop(1);
        x.drop(2);
        due(x, 3);
    }

    private static void askedOutOfOrder() {
        GreatestFlow x = Build.nodes(1, 2);
        x.bound(1, 2);
        Build.arcs(x, Build.arc(0, 1, 1, 1), Build.arc(0, 1, 1, 1), Build.arc(0, 1, 1, 1));
        CHECK.due("barred(2) first", x.barred(2), 2);
        CHECK.due("barred(3)", x.barred(3), -1);
        CHECK.due("barred(0)", x.barred(0), 0);
        CHECK.due("barred(1)", x.barred(1), 1);
    }

    private static void changesNothing() {
        GreatestFlow x = Build.nodes(0, 0);
        Build.arcs(x, Build.arc(0, 1, 1, 2), Build.arc(0, 1, 2, 2));
        due(x, 0);
        CHECK.due("run() after barred", x.run(), 0);
        CHECK.due("value(0) after barred", x.value(0), -3);
        due(x, 0);
        x.kind(0, 1);
        x.kind(1, 2);
        CHECK.due("value(1): the LEASTS are as they were", x.value(1), 3);
    }

    private static void afterEachChange() {
        GreatestFlow x = Build.nodes(0, 0);
        x.arc(0, 1, 1, 1);
        due(x, 0);
        x.arc(1, 0, 2, 2);
        due(x, 1);
        x.change(0, 2, 2);
        CHECK.due("a ring", x.barred(0), -2);
        x.bound(0, 1);
        due(x, 0);
        x.drop(0);
        due(x, 1);
        x.kind(1, 1);
        x.kind(0, 2);
        due(x, 1);
        x.bound(0, 2);
        CHECK.due("from a SOURCE to a SINK", x.barred(0), -2);
    }

    /** As many as there can be: all are needed for 1 too much, and then the first alone is too much. */
    private static void all() {
        GreatestFlow x = Build.nodes(1, 2);
        x.bound(0, 39);
        int[] all = new int[40];
        for (int a = 0; a < 40; a++) {
            x.arc(0, 1, 1, 1);
            all[a] = a;
        }
        due(x, all);
        x.bound(0, 0);
        due(x, 0);
    }

    private static void due(GreatestFlow x, int... arcs) {
        for (int k = 0; k < arcs.length; k++) {
            CHECK.due("barred(" + k + ")", x.barred(k), arcs[k]);
        }
        CHECK.due("barred(" + arcs.length + ")", x.barred(arcs.length), -1);
        CHECK.due("barred(-1)", x.barred(-1), -1);
    }
}
