/** Short ways to make the graphs of the tests. */
final class Build {
    private Build() {
    }

    /** A graph with one NODE for each KIND. */
    static GreatestFlow nodes(int... kinds) {
        GreatestFlow x = new GreatestFlow();
        for (int kind : kinds) {
            x.kind(x.node(), kind);
        }
        return x;
    }

    /** More ARCS, each as from, to, LEAST, MOST. */
    static void arcs(GreatestFlow x, int[]... arcs) {
        for (int[] arc : arcs) {
            x.arc(arc[0], arc[1], arc[2], arc[3]);
        }
    }

    static int[] arc(int from, int to, int least, int most) {
        return new int[] {from, to, least, most};
    }
}
