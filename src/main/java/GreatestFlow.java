import java.util.Arrays;

/**
 * A graph whose arcs carry whole numbers between bounds, and questions about its flows.
 *
 * <p>What each call does and answers is promised in ../shared/DOC.md; words in capitals are its terms.
 */
public final class GreatestFlow {
    private static final int NO_SUCH = -1;
    private static final int OUTSIDE = -2;
    private static final int NO_FLOW = -3;
    private static final int NO_ROOM = -4;

    private static final int MOST_NODES = 10;
    private static final int MOST_ARCS = 40;
    private static final int HIGHEST_MOST = 1000;
    private static final int HIGHEST_BOUND = 100000;
    private static final int NO_BOUND = -1;

    private static final int REST = 0;
    private static final int SOURCE = 1;
    private static final int SINK = 2;

    private static final int GREATEST = 0;
    private static final int LEAST = 1;
    private static final int WAYS = 2;

    // Every STREAM and every RING uses up an ARC, a SOURCE or a SINK for good.
    private static final int MOST_STREAMS = MOST_ARCS + MOST_NODES;

    private static final int NONE = -1;

    // 40 ARCS of at most 1001 each: no edge of the net can ever carry as much as this.
    private static final int FREE = 100000;

    // The net's edges: ARCS keep their numbers; then one edge through each NODE, which has its BOUND;
    // then one for what each SOURCE gives or SINK takes; then the one that leads all of it back.
    private static final int THROUGH = MOST_ARCS;
    private static final int ENDS = THROUGH + MOST_NODES;
    private static final int RETURN = ENDS + MOST_NODES;
    private static final int EDGES = RETURN + 1;

    // The net's vertices: two for each NODE (see cameIn, goesOut), and two that all SOURCES and SINKS share.
    private static final int GIVER = 2 * MOST_NODES;
    private static final int TAKER = GIVER + 1;
    private static final int VERTICES = TAKER + 1;

    // At a NODE's vertex all ARCS may meet, with the edge through it and the one of its KIND.
    private static final int MOST_HALVES = MOST_ARCS + 2;

    private final Graph graph;
    private final Net net;
    private final Parts parts;
    private final int[] someFlow;
    private final int[][] firstFlow;
    private final boolean[] firstKnown;
    private final int[] barredDown;
    private int barredCount;
    private boolean barredKnown;
    private boolean partsKnown;
    private boolean flowSought;
    private boolean flowFound;

    /** No NODES. */
    public GreatestFlow() {
        graph = new Graph();
        net = new Net();
        parts = new Parts();
        someFlow = new int[EDGES];
        firstFlow = new int[WAYS][EDGES];
        firstKnown = new boolean[WAYS];
        barredDown = new int[MOST_ARCS];
    }

    /** A NODE more: its number; -4. */
    public int node() {
        if (graph.nodes >= MOST_NODES) {
            return NO_ROOM;
        }
        forget();
        return graph.addNode();
    }

    /** A NODE's KIND: what it was; -1, -2. */
    public int kind(int node, int kind) {
        if (!graph.hasNode(node)) {
            return NO_SUCH;
        }
        if (kind < REST || kind > SINK) {
            return OUTSIDE;
        }
        int before = graph.kinds[node];
        graph.kinds[node] = kind;
        forget();
        return before;
    }

    /** A NODE's BOUND: 1; -1, -2. */
    public int bound(int node, int most) {
        if (!graph.hasNode(node)) {
            return NO_SUCH;
        }
        if (most < NO_BOUND || most > HIGHEST_BOUND) {
            return OUTSIDE;
        }
        graph.bounds[node] = most;
        forget();
        return 1;
    }

    /** An ARC more: its number; -1, -2, -4. */
    public int arc(int from, int to, int least, int most) {
        if (!graph.hasNode(from) || !graph.hasNode(to) || from == to) {
            return NO_SUCH;
        }
        if (!areArcBounds(least, most)) {
            return OUTSIDE;
        }
        if (graph.arcs >= MOST_ARCS) {
            return NO_ROOM;
        }
        forget();
        return graph.addArc(from, to, least, most);
    }

    /** An ARC gets other bounds: 1; -1, -2. */
    public int change(int arc, int least, int most) {
        if (!graph.hasArc(arc)) {
            return NO_SUCH;
        }
        if (!areArcBounds(least, most)) {
            return OUTSIDE;
        }
        graph.leasts[arc] = least;
        graph.mosts[arc] = most;
        forget();
        return 1;
    }

    /** An ARC is no more: how many there are; -1. */
    public int drop(int arc) {
        if (!graph.hasArc(arc)) {
            return NO_SUCH;
        }
        forget();
        return graph.removeArc(arc);
    }

    /** No NODES any more: how many there were. */
    public int clear() {
        forget();
        return graph.removeAll();
    }

    /** Whether there is a FLOW: 1 or 0. */
    public int run() {
        return hasFlow() ? 1 : 0;
    }

    /** The greatest VALUE (WAY 0), the least one (WAY 1); -1, -3. */
    public int value(int way) {
        if (!isWay(way)) {
            return NO_SUCH;
        }
        if (!hasFlow()) {
            return NO_FLOW;
        }
        return first(way)[RETURN];
    }

    /** What a WAY's FLOW tells for an ARC; -1, -3. */
    public int on(int way, int arc) {
        if (!isWay(way) || !graph.hasArc(arc)) {
            return NO_SUCH;
        }
        if (!hasFlow()) {
            return NO_FLOW;
        }
        return first(way)[arc];
    }

    /** The greater of what COMES to and GOES from a NODE in a WAY's FLOW; -1, -3. */
    public int through(int way, int node) {
        if (!isWay(way) || !graph.hasNode(node)) {
            return NO_SUCH;
        }
        if (!hasFlow()) {
            return NO_FLOW;
        }
        int[] flow = first(way);
        return Math.max(graph.comes(flow, node), graph.goes(flow, node));
    }

    /** Whether a NODE is NEAR: 1 or 0; -1, -2, -3. */
    public int near(int node) {
        return helpsAs(node, SINK);
    }

    /** Whether a NODE is FAR: 1 or 0; -1, -2, -3. */
    public int far(int node) {
        return helpsAs(node, SOURCE);
    }

    /** Whether an ARC is TIGHT: 1 or 0; -1, -3. */
    public int tight(int arc) {
        if (!graph.hasArc(arc)) {
            return NO_SUCH;
        }
        if (!hasFlow()) {
            return NO_FLOW;
        }
        layOutFirstGreatest();
        net.high[arc]++;
        return net.raise(RETURN, 1);
    }

    /** ARC k, by numbers, of THE BARRED; -2, -1. */
    public int barred(int k) {
        if (hasFlow()) {
            return OUTSIDE;
        }
        if (!barredKnown) {
            findBarred();
        }
        if (k < 0 || k >= barredCount) {
            return NO_SUCH;
        }
        return barredDown[barredCount - 1 - k];
    }

    /** How many STREAMS there are; -3. */
    public int streams() {
        if (!hasFlow()) {
            return NO_FLOW;
        }
        splitFirstGreatest();
        return parts.count;
    }

    /** STREAM k: what = 0 how much, 1 how many ARCS, 2 + i ARC i; -3, -1, -2. */
    public int stream(int k, int what) {
        if (!hasFlow()) {
            return NO_FLOW;
        }
        splitFirstGreatest();
        if (k < 0 || k >= parts.count) {
            return NO_SUCH;
        }
        if (what < 0) {
            return OUTSIDE;
        }
        if (what == 0) {
            return parts.amounts[k];
        }
        if (what == 1) {
            return parts.lengths[k];
        }
        return parts.arcAt(k, what - 2);
    }

    private static boolean isWay(int way) {
        return way == GREATEST || way == LEAST;
    }

    private static boolean areArcBounds(int least, int most) {
        return least >= 0 && least <= most && most <= HIGHEST_MOST;
    }

    // A NODE is split so that its BOUND lies on one edge, which both what COMES and what GOES must pass:
    // what a SOURCE gives enters before that edge, what a SINK takes leaves behind it.
    private static int cameIn(int node) {
        return 2 * node;
    }

    private static int goesOut(int node) {
        return 2 * node + 1;
    }

    private void forget() {
        flowSought = false;
        firstKnown[GREATEST] = false;
        firstKnown[LEAST] = false;
        barredKnown = false;
        partsKnown = false;
    }

    private boolean hasFlow() {
        if (!flowSought) {
            layOut();
            flowFound = net.mend();
            net.save(someFlow);
            flowSought = true;
        }
        return flowFound;
    }

    /** A WAY's FLOW, by the net's edges; asked only where there is a FLOW. */
    private int[] first(int way) {
        if (!firstKnown[way]) {
            layOut();
            net.load(someFlow);
            if (way == GREATEST) {
                net.raise(RETURN, FREE);
            } else {
                net.lower(RETURN);
            }
            net.hold(RETURN);
            for (int arc = 0; arc < graph.arcs; arc++) {
                net.lower(arc);
                net.hold(arc);
            }
            net.save(firstFlow[way]);
            firstKnown[way] = true;
        }
        return firstFlow[way];
    }

    private void layOut() {
        net.empty();
        for (int node = 0; node < graph.nodes; node++) {
            int bound = graph.bounds[node];
            net.put(THROUGH + node, cameIn(node), goesOut(node), 0, bound == NO_BOUND ? FREE : bound);
            layOutEnd(node, graph.kinds[node]);
        }
        for (int arc = 0; arc < graph.arcs; arc++) {
            if (graph.hasArc(arc)) {
                int from = goesOut(graph.froms[arc]);
                int to = cameIn(graph.tos[arc]);
                net.put(arc, from, to, graph.leasts[arc], graph.mosts[arc]);
            }
        }
        net.put(RETURN, TAKER, GIVER, 0, FREE);
    }

    private void layOutEnd(int node, int kind) {
        if (kind == SOURCE) {
            net.put(ENDS + node, GIVER, cameIn(node), 0, FREE);
        } else if (kind == SINK) {
            net.put(ENDS + node, goesOut(node), TAKER, 0, FREE);
        }
    }

    private void layOutFirstGreatest() {
        int[] flow = first(GREATEST);
        layOut();
        net.load(flow);
    }

    private int helpsAs(int node, int kind) {
        if (!graph.hasNode(node)) {
            return NO_SUCH;
        }
        if (graph.kinds[node] != REST) {
            return OUTSIDE;
        }
        if (!hasFlow()) {
            return NO_FLOW;
        }
        layOutFirstGreatest();
        layOutEnd(node, kind);
        return net.raise(RETURN, 1);
    }

    private void findBarred() {
        layOut();
        barredCount = 0;
        for (int arc = graph.arcs - 1; arc >= 0; arc--) {
            int least = net.low[arc];
            if (least > 0) {
                net.low[arc] = 0;
                if (net.mend()) {
                    net.low[arc] = least;
                    barredDown[barredCount] = arc;
                    barredCount++;
                }
            }
        }
        barredKnown = true;
    }

    private void splitFirstGreatest() {
        if (!partsKnown) {
            parts.split(graph, first(GREATEST));
            partsKnown = true;
        }
    }

    /** The NODES and ARCS as they were given. */
    private static final class Graph {
        final int[] kinds = new int[MOST_NODES];
        final int[] bounds = new int[MOST_NODES];
        final int[] froms = new int[MOST_ARCS];
        final int[] tos = new int[MOST_ARCS];
        final int[] leasts = new int[MOST_ARCS];
        final int[] mosts = new int[MOST_ARCS];
        final boolean[] dropped = new boolean[MOST_ARCS];
        int nodes;
        int arcs;
        int arcsThere;

        boolean hasNode(int node) {
            return node >= 0 && node < nodes;
        }

        boolean hasArc(int arc) {
            return arc >= 0 && arc < arcs && !dropped[arc];
        }

        int addNode() {
            kinds[nodes] = REST;
            bounds[nodes] = NO_BOUND;
            nodes++;
            return nodes - 1;
        }

        int addArc(int from, int to, int least, int most) {
            froms[arcs] = from;
            tos[arcs] = to;
            leasts[arcs] = least;
            mosts[arcs] = most;
            dropped[arcs] = false;
            arcs++;
            arcsThere++;
            return arcs - 1;
        }

        int removeArc(int arc) {
            dropped[arc] = true;
            arcsThere--;
            return arcsThere;
        }

        int removeAll() {
            int before = nodes;
            nodes = 0;
            arcs = 0;
            arcsThere = 0;
            return before;
        }

        int comes(int[] flow, int node) {
            int sum = 0;
            for (int arc = 0; arc < arcs; arc++) {
                if (tos[arc] == node && !dropped[arc]) {
                    sum += flow[arc];
                }
            }
            return sum;
        }

        int goes(int[] flow, int node) {
            int sum = 0;
            for (int arc = 0; arc < arcs; arc++) {
                if (froms[arc] == node && !dropped[arc]) {
                    sum += flow[arc];
                }
            }
            return sum;
        }
    }

    /**
     * A net in which at every vertex as much comes as goes, always; an edge may be below its low bound
     * until it is mended, but never above its high one. Half 2 * e goes along edge e and adds to its flow,
     * half 2 * e + 1 goes against it and takes from it.
     */
    private static final class Net {
        final int[] low = new int[EDGES];
        final int[] high = new int[EDGES];
        private final int[] from = new int[EDGES];
        private final int[] to = new int[EDGES];
        private final int[] flow = new int[EDGES];
        private final boolean[] held = new boolean[EDGES];
        private final int[] halves = new int[VERTICES * MOST_HALVES];
        private final int[] halfCount = new int[VERTICES];
        private final int[] reachedBy = new int[VERTICES];
        private final int[] queue = new int[VERTICES];

        /** No edges: those that are not put then have nothing to carry. */
        void empty() {
            Arrays.fill(low, 0);
            Arrays.fill(high, 0);
            Arrays.fill(flow, 0);
            Arrays.fill(halfCount, 0);
            for (int edge = 0; edge < EDGES; edge++) {
                held[edge] = false;
            }
        }

        void put(int edge, int start, int end, int least, int most) {
            from[edge] = start;
            to[edge] = end;
            low[edge] = least;
            high[edge] = most;
            addHalf(start, 2 * edge);
            addHalf(end, 2 * edge + 1);
        }

        private void addHalf(int vertex, int half) {
            int count = halfCount[vertex];
            if (count < MOST_HALVES) {
                halves[vertex * MOST_HALVES + count] = half;
                halfCount[vertex] = count + 1;
            }
        }

        void save(int[] into) {
            System.arraycopy(flow, 0, into, 0, EDGES);
        }

        void load(int[] saved) {
            System.arraycopy(saved, 0, flow, 0, EDGES);
        }

        void hold(int edge) {
            held[edge] = true;
        }

        /** Raises each ARC to its low bound; if one can't be, there is no FLOW. May be called again. */
        boolean mend() {
            for (int arc = 0; arc < MOST_ARCS; arc++) {
                int lack = low[arc] - flow[arc];
                if (lack > 0 && raise(arc, lack) < lack) {
                    return false;
                }
            }
            return true;
        }

        /** Adds to an edge as much as can come back to it on other ways, at most a limit: how much. */
        int raise(int edge, int limit) {
            // The edge must not undo itself on the way back.
            held[edge] = true;
            int more = carry(to[edge], from[edge], Math.min(limit, high[edge] - flow[edge]));
            flow[edge] += more;
            held[edge] = false;
            return more;
        }

        /** Takes from an edge as much as can go on other ways, down to its low bound. */
        void lower(int edge) {
            held[edge] = true;
            flow[edge] -= carry(from[edge], to[edge], flow[edge] - low[edge]);
            held[edge] = false;
        }

        private int carry(int start, int goal, int limit) {
            int carried = 0;
            // Each round carries 1 at least.
            for (int round = 0; round < limit && carried < limit; round++) {
                if (!reaches(start, goal)) {
                    break;
                }
                int amount = Math.min(limit - carried, narrowest(goal));
                send(goal, amount);
                carried += amount;
            }
            return carried;
        }

        /** Seeks a shortest way, so that few rounds are enough. */
        private boolean reaches(int start, int goal) {
            Arrays.fill(reachedBy, NONE);
            queue[0] = start;
            int size = 1;
            for (int k = 0; k < size && k < VERTICES; k++) {
                int vertex = queue[k];
                for (int i = 0; i < halfCount[vertex]; i++) {
                    int half = halves[vertex * MOST_HALVES + i];
                    int end = endOf(half);
                    if (end != start && reachedBy[end] == NONE && leftOn(half) > 0) {
                        reachedBy[end] = half;
                        if (end == goal) {
                            return true;
                        }
                        queue[size] = end;
                        size++;
                    }
                }
            }
            return false;
        }

        private int narrowest(int goal) {
            int least = FREE;
            int half = reachedBy[goal];
            for (int step = 0; step < VERTICES && half != NONE; step++) {
                least = Math.min(least, leftOn(half));
                half = reachedBy[endOf(half ^ 1)];
            }
            return least;
        }

        private void send(int goal, int amount) {
            int half = reachedBy[goal];
            for (int step = 0; step < VERTICES && half != NONE; step++) {
                flow[half >> 1] += (half & 1) == 0 ? amount : -amount;
                half = reachedBy[endOf(half ^ 1)];
            }
        }

        private int endOf(int half) {
            return (half & 1) == 0 ? to[half >> 1] : from[half >> 1];
        }

        private int leftOn(int half) {
            int edge = half >> 1;
            if (held[edge]) {
                return 0;
            }
            return (half & 1) == 0 ? high[edge] - flow[edge] : flow[edge] - low[edge];
        }
    }

    /** The STREAMS into which a FLOW falls. */
    private static final class Parts {
        final int[] amounts = new int[MOST_STREAMS];
        final int[] lengths = new int[MOST_STREAMS];
        int count;
        private final int[] streamArcs = new int[MOST_STREAMS * MOST_NODES];
        private final int[] left = new int[MOST_ARCS];
        private final int[] due = new int[MOST_NODES];
        private final int[] placeOf = new int[MOST_NODES];
        private final int[] path = new int[MOST_NODES];

        /** ARC i of STREAM k, which there is. */
        int arcAt(int k, int i) {
            return i < lengths[k] ? streamArcs[k * MOST_NODES + i] : NO_SUCH;
        }

        void split(Graph graph, int[] flow) {
            count = 0;
            System.arraycopy(flow, 0, left, 0, MOST_ARCS);
            for (int node = 0; node < graph.nodes; node++) {
                due[node] = Math.abs(graph.goes(flow, node) - graph.comes(flow, node));
            }
            for (int round = 0; round < MOST_STREAMS; round++) {
                int start = leastGiver(graph);
                if (start == NONE) {
                    return;
                }
                walk(graph, start);
            }
        }

        private int leastGiver(Graph graph) {
            for (int node = 0; node < graph.nodes; node++) {
                if (graph.kinds[node] == SOURCE && due[node] > 0) {
                    return node;
                }
            }
            return NONE;
        }

        private void walk(Graph graph, int start) {
            Arrays.fill(placeOf, NONE);
            int here = start;
            for (int length = 0; length <= MOST_NODES; length++) {
                if (graph.kinds[here] == SINK && due[here] > 0) {
                    endStream(start, here, length);
                    return;
                }
                if (placeOf[here] != NONE) {
                    takeFromPath(placeOf[here], length, leastLeft(placeOf[here], length));
                    return;
                }
                int arc = leastArcFrom(graph, here);
                if (arc == NONE || length == MOST_NODES) {
                    return;
                }
                placeOf[here] = length;
                path[length] = arc;
                here = graph.tos[arc];
            }
        }

        private int leastArcFrom(Graph graph, int node) {
            for (int arc = 0; arc < graph.arcs; arc++) {
                if (graph.froms[arc] == node && left[arc] > 0) {
                    return arc;
                }
            }
            return NONE;
        }

        private void endStream(int source, int sink, int length) {
            int amount = Math.min(leastLeft(0, length), Math.min(due[source], due[sink]));
            takeFromPath(0, length, amount);
            due[source] -= amount;
            due[sink] -= amount;
            amounts[count] = amount;
            lengths[count] = length;
            System.arraycopy(path, 0, streamArcs, count * MOST_NODES, length);
            count++;
        }

        private int leastLeft(int begin, int end) {
            int least = FREE;
            for (int i = begin; i < end; i++) {
                least = Math.min(least, left[path[i]]);
            }
            return least;
        }

        private void takeFromPath(int begin, int end, int amount) {
            for (int i = begin; i < end; i++) {
                left[path[i]] -= amount;
            }
        }
    }
}
