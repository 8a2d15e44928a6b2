/** Promise 16: barred. */
public final class BarredTest {
    private static final Check CHECK = new Check();

    public static void main(String[] args) {
        whereThereIsAFlow();
        one();
        fromTheGreatestNumberDown();
        together();
        leastsOfZeroAndDropped();
        changesNothing();
        all();
        CHECK.end();
    }

    private static void whereThereIsAFlow() {
        GreatestFlow x = new GreatestFlow();
        CHECK.due("no NODES: barred(0)", x.barred(0), -2);
        CHECK.due("no NODES: barred(-1)", x.barred(-1), -2);
        x = Build.nodes(1, 2);
        Build.arcs(x, Build.arc(0, 1, 3, 5));
        CHECK.due("a FLOW: barred(0)", x.barred(0), -2);
        CHECK.due("a FLOW: barred(-1)", x.barred(-1), -2);
        CHECK.due("a FLOW: barred(MAX)", x.barred(Integer.MAX_VALUE), -2);
    }

    private static void one() {
        GreatestFlow x = Build.nodes(0, 0);
        Build.arcs(x, Build.arc(0, 1, 3, 5));
        due(x, 0);
        CHECK.due("barred(-1)", x.barred(-1), -1);
        CHECK.due("barred(MIN)", x.barred(Integer.MIN_VALUE), -1);
        CHECK.due("barred(MAX)", x.barred(Integer.MAX_VALUE), -1);
        x.change(0, 0, 5);
        CHECK.due("then there is a FLOW", x.barred(0), -2);
    }

    private static void fromTheGreatestNumberDown() {
        // Each ARC alone is barred by its missing way back; only the least number stays.
        GreatestFlow x = Build.nodes(0, 0);
        Build.arcs(x, Build.arc(0, 1, 1, 2), Build.arc(0, 1, 1, 2), Build.arc(0, 1, 1, 2));
        due(x, 0);
        x.change(0, 0, 2);
        due(x, 1);
    }

    private static void together() {
        // The SINK lets only 5 in, the LEASTS are 3, 1, 4, 2.
        GreatestFlow x = Build.nodes(1, 2);
        x.bound(1, 5);
        Build.arcs(x, Build.arc(0, 1, 3, 9), Build.arc(0, 1, 1, 9), Build.arc(0, 1, 4, 9), Build.arc(0, 1, 2, 9));
        // Without ARC 3: 8, no FLOW. Without ARC 2 as well: 4, which fits, so it stays. Without ARC 1: 7,
        // no FLOW. Without ARC 0: 4, which fits.
        due(x, 0, 2);
        x.change(2, 1, 9);
        // 3, 1, 1, 2: without ARC 3: 5, it stays. Without ARC 2: 6. Without ARC 1: 5, it stays, so does ARC 0.
        due(x, 0, 1, 3);
    }

    private static void leastsOfZeroAndDropped() {
        GreatestFlow x = Build.nodes(1, 0, 2);
        Build.arcs(x, Build.arc(0, 1, 5, 5), Build.arc(1, 2, 0, 2), Build.arc(1, 2, 0, 2), Build.arc(0, 1, 1, 1));
        due(x, 0);
        x.drop(0);
        CHECK.due("without it there is a FLOW", x.barred(0), -2);
        x.drop(1);
        x.drop(2);
        due(x, 3);
    }

    private static void changesNothing() {
        GreatestFlow x = Build.nodes(0, 0);
        Build.arcs(x, Build.arc(0, 1, 1, 2), Build.arc(0, 1, 2, 2));
        due(x, 0);
        CHECK.due("run() after barred", x.run(), 0);
        CHECK.due("value(0) after barred", x.value(0), -3);
        due(x, 0);
        x.kind(0, 1);
        x.kind(1, 2);
        CHECK.due("value(1): the LEASTS are as they were", x.value(1), 3);
    }

    private static void all() {
        GreatestFlow x = Build.nodes(1, 2);
        x.bound(0, 39);
        int[] all = new int[40];
        for (int a = 0; a < 40; a++) {
            x.arc(0, 1, 1, 1);
            all[a] = a;
        }
        due(x, all);
    }

    private static void due(GreatestFlow x, int... arcs) {
        for (int k = 0; k < arcs.length; k++) {
            CHECK.due("barred(" + k + ")", x.barred(k), arcs[k]);
        }
        CHECK.due("barred(" + arcs.length + ")", x.barred(arcs.length), -1);
    }
}
