import java.util.Arrays;

/**
 * Finds FLOWS by one question alone, whether there is one between bounds, halving the range of the VALUE
 * and of each ARC in turn. The question is answered by filling a net from one more source to one more sink.
 */
final class Halving implements Oracle {
    private static final int FREE = 1000000;
    private int[][] room;
    private boolean[] seen;

    @Override
    public boolean hasFlow(Model model) {
        return hasFlow(model, 0, FREE);
    }

    @Override
    public boolean hasMore(Model model, int value) {
        return hasFlow(model, value + 1, FREE);
    }

    @Override
    public int value(Model model, int way) {
        int low = 0;
        int high = 50000;
        while (low < high) {
            int middle = way == 0 ? (low + high + 1) / 2 : (low + high) / 2;
            boolean can = way == 0 ? hasFlow(model, middle, FREE) : hasFlow(model, 0, middle);
            if (way == 0) {
                low = can ? middle : low;
                high = can ? high : middle - 1;
            } else {
                low = can ? low : middle + 1;
                high = can ? middle : high;
            }
        }
        return low;
    }

    @Override
    public int[] first(Model asked, int way) {
        Model model = asked.copy();
        int value = value(model, way);
        int[] flow = new int[model.arcs.size()];
        for (int a = 0; a < flow.length; a++) {
            if (model.hasArc(a)) {
                int[] arc = model.arcs.get(a);
                int low = arc[2];
                int high = arc[3];
                while (low < high) {
                    arc[3] = (low + high) / 2;
                    if (hasFlow(model, value, value)) {
                        high = arc[3];
                    } else {
                        low = arc[3] + 1;
                    }
                }
                arc[2] = low;
                arc[3] = low;
                flow[a] = low;
            }
        }
        return flow;
    }

    private boolean hasFlow(Model model, int leastValue, int mostValue) {
        int nodes = model.kinds.size();
        int gives = 2 * nodes;
        int takes = gives + 1;
        int start = gives + 2;
        int end = gives + 3;
        room = new int[gives + 4][gives + 4];
        int owed = 0;
        for (int n = 0; n < nodes; n++) {
            room[2 * n][2 * n + 1] += model.bounds.get(n) == -1 ? FREE : model.bounds.get(n);
            if (model.kinds.get(n) == 1) {
                room[gives][2 * n] += FREE;
            } else if (model.kinds.get(n) == 2) {
                room[2 * n + 1][takes] += FREE;
            }
        }
        for (int[] arc : model.arcs) {
            if (arc != null) {
                room[2 * arc[0] + 1][2 * arc[1]] += arc[3] - arc[2];
                room[start][2 * arc[1]] += arc[2];
                room[2 * arc[0] + 1][end] += arc[2];
                owed += arc[2];
            }
        }
        room[takes][gives] += mostValue - leastValue;
        room[start][gives] += leastValue;
        room[takes][end] += leastValue;
        owed += leastValue;
        return fill(start, end) == owed;
    }

    private int fill(int start, int end) {
        int filled = 0;
        // Wide ways first, so that depth first needs few of them.
        for (int width = 1 << 20; width > 0; width /= 2) {
            seen = new boolean[room.length];
            int more = push(start, end, FREE, width);
            while (more > 0) {
                filled += more;
                Arrays.fill(seen, false);
                more = push(start, end, FREE, width);
            }
        }
        return filled;
    }

    private int push(int at, int end, int most, int width) {
        if (at == end) {
            return most;
        }
        seen[at] = true;
        for (int next = 0; next < room.length; next++) {
            if (!seen[next] && room[at][next] >= width) {
                int pushed = push(next, end, Math.min(most, room[at][next]), width);
                if (pushed > 0) {
                    room[at][next] -= pushed;
                    room[next][at] += pushed;
                    return pushed;
                }
            }
        }
        return 0;
    }
}
