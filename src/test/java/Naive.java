import java.util.ArrayList;
import java.util.List;

/** The document's face once more, in its plainest words, with an oracle for all that is about FLOWS. */
final class Naive {
    private final Oracle oracle;
    private Model model = new Model();
    private Boolean flowThere;
    private final int[][] firsts = new int[2][];
    private List<Integer> barredArcs;
    private List<int[]> streamList;

    Naive(Oracle oracle) {
        this.oracle = oracle;
    }

    int arcNumbers() {
        return model.arcs.size();
    }

    int nodeNumbers() {
        return model.kinds.size();
    }

    int node() {
        if (model.kinds.size() == 10) {
            return -4;
        }
        forget();
        model.kinds.add(0);
        model.bounds.add(-1);
        return model.kinds.size() - 1;
    }

    int kind(int node, int kind) {
        if (!model.hasNode(node)) {
            return -1;
        }
        if (kind < 0 || kind > 2) {
            return -2;
        }
        forget();
        return model.kinds.set(node, kind);
    }

    int bound(int node, int most) {
        if (!model.hasNode(node)) {
            return -1;
        }
        if (most < -1 || most > 100000) {
            return -2;
        }
        forget();
        model.bounds.set(node, most);
        return 1;
    }

    int arc(int from, int to, int least, int most) {
        if (!model.hasNode(from) || !model.hasNode(to) || from == to) {
            return -1;
        }
        if (least < 0 || most > 1000 || least > most) {
            return -2;
        }
        if (model.arcs.size() == 40) {
            return -4;
        }
        forget();
        model.arcs.add(new int[] {from, to, least, most});
        return model.arcs.size() - 1;
    }

    int change(int arc, int least, int most) {
        if (!model.hasArc(arc)) {
            return -1;
        }
        if (least < 0 || most > 1000 || least > most) {
            return -2;
        }
        forget();
        model.arcs.get(arc)[2] = least;
        model.arcs.get(arc)[3] = most;
        return 1;
    }

    int drop(int arc) {
        if (!model.hasArc(arc)) {
            return -1;
        }
        forget();
        model.arcs.set(arc, null);
        int there = 0;
        for (int[] one : model.arcs) {
            there += one == null ? 0 : 1;
        }
        return there;
    }

    int clear() {
        forget();
        int before = model.kinds.size();
        model = new Model();
        return before;
    }

    int run() {
        if (flowThere == null) {
            flowThere = oracle.hasFlow(model);
        }
        return flowThere ? 1 : 0;
    }

    int value(int way) {
        if (way < 0 || way > 1) {
            return -1;
        }
        return run() == 0 ? -3 : model.value(first(way));
    }

    int on(int way, int arc) {
        if (way < 0 || way > 1 || !model.hasArc(arc)) {
            return -1;
        }
        return run() == 0 ? -3 : first(way)[arc];
    }

    int through(int way, int node) {
        if (way < 0 || way > 1 || !model.hasNode(node)) {
            return -1;
        }
        return run() == 0 ? -3 : Math.max(model.comes(first(way), node), model.goes(first(way), node));
    }

    int near(int node) {
        return moreAs(node, 2);
    }

    int far(int node) {
        return moreAs(node, 1);
    }

    private int moreAs(int node, int kind) {
        if (!model.hasNode(node)) {
            return -1;
        }
        if (model.kinds.get(node) != 0) {
            return -2;
        }
        if (run() == 0) {
            return -3;
        }
        Model other = model.copy();
        other.kinds.set(node, kind);
        return oracle.hasMore(other, value(0)) ? 1 : 0;
    }

    int tight(int arc) {
        if (!model.hasArc(arc)) {
            return -1;
        }
        if (run() == 0) {
            return -3;
        }
        Model other = model.copy();
        other.arcs.get(arc)[3]++;
        return oracle.hasMore(other, value(0)) ? 1 : 0;
    }

    int barred(int k) {
        if (run() == 1) {
            return -2;
        }
        if (barredArcs == null) {
            barredArcs = findBarred();
        }
        return k < 0 || k >= barredArcs.size() ? -1 : barredArcs.get(k);
    }

    private List<Integer> findBarred() {
        Model other = model.copy();
        List<Integer> kept = new ArrayList<>();
        for (int a = other.arcs.size() - 1; a >= 0; a--) {
            if (other.hasArc(a) && other.arcs.get(a)[2] > 0) {
                int least = other.arcs.get(a)[2];
                other.arcs.get(a)[2] = 0;
                if (oracle.hasFlow(other)) {
                    other.arcs.get(a)[2] = least;
                    kept.add(0, a);
                }
            }
        }
        return kept;
    }

    int streams() {
        return run() == 0 ? -3 : streamList().size();
    }

    int stream(int k, int what) {
        if (run() == 0) {
            return -3;
        }
        if (k < 0 || k >= streamList().size()) {
            return -1;
        }
        if (what < 0) {
            return -2;
        }
        int[] stream = streamList().get(k);
        return what < stream.length ? stream[what] : -1;
    }

    private int[] first(int way) {
        if (firsts[way] == null) {
            firsts[way] = oracle.first(model, way);
        }
        return firsts[way];
    }

    private List<int[]> streamList() {
        if (streamList == null) {
            streamList = findStreams();
        }
        return streamList;
    }

    /** Each STREAM as stream(k, 0), stream(k, 1), .. answer it. */
    private List<int[]> findStreams() {
        int[] left = first(0).clone();
        int[] give = new int[model.kinds.size()];
        int[] take = new int[model.kinds.size()];
        for (int n = 0; n < give.length; n++) {
            int more = model.goes(left, n) - model.comes(left, n);
            give[n] = model.kinds.get(n) == 1 ? more : 0;
            take[n] = model.kinds.get(n) == 2 ? -more : 0;
        }
        List<int[]> found = new ArrayList<>();
        int source = firstAbove0(give);
        while (source >= 0) {
            List<Integer> nodes = new ArrayList<>();
            List<Integer> way = new ArrayList<>();
            int at = source;
            while (take[at] == 0 && !nodes.contains(at)) {
                nodes.add(at);
                int arc = firstFrom(at, left);
                way.add(arc);
                at = model.arcs.get(arc)[1];
            }
            if (take[at] == 0) {
                List<Integer> ring = way.subList(nodes.indexOf(at), way.size());
                int least = leastOf(ring, left);
                for (int arc : ring) {
                    left[arc] -= least;
                }
            } else {
                int least = Math.min(leastOf(way, left), Math.min(give[source], take[at]));
                give[source] -= least;
                take[at] -= least;
                int[] stream = new int[way.size() + 2];
                stream[0] = least;
                stream[1] = way.size();
                for (int i = 0; i < way.size(); i++) {
                    left[way.get(i)] -= least;
                    stream[2 + i] = way.get(i);
                }
                found.add(stream);
            }
            source = firstAbove0(give);
        }
        return found;
    }

    private static int firstAbove0(int[] row) {
        for (int i = 0; i < row.length; i++) {
            if (row[i] > 0) {
                return i;
            }
        }
        return -1;
    }

    private int firstFrom(int node, int[] left) {
        for (int a = 0; a < left.length; a++) {
            if (model.hasArc(a) && model.arcs.get(a)[0] == node && left[a] > 0) {
                return a;
            }
        }
        throw new IllegalStateException("a FLOW can't end at NODE " + node);
    }

    private static int leastOf(List<Integer> arcs, int[] left) {
        int least = Integer.MAX_VALUE;
        for (int arc : arcs) {
            least = Math.min(least, left[arc]);
        }
        return least;
    }

    private void forget() {
        flowThere = null;
        firsts[0] = null;
        firsts[1] = null;
        barredArcs = null;
        streamList = null;
    }
}
