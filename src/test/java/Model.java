import java.util.ArrayList;
import java.util.List;

/** A graph as the document's terms tell it, with plain checks of what is a FLOW; shares no code with the class. */
final class Model {
    final List<Integer> kinds = new ArrayList<>();
    final List<Integer> bounds = new ArrayList<>();
    /** Each ARC: from, to, LEAST, MOST; null where it was dropped. */
    final List<int[]> arcs = new ArrayList<>();

    Model copy() {
        Model other = new Model();
        other.kinds.addAll(kinds);
        other.bounds.addAll(bounds);
        for (int[] arc : arcs) {
            other.arcs.add(arc == null ? null : arc.clone());
        }
        return other;
    }

    boolean hasNode(int node) {
        return node >= 0 && node < kinds.size();
    }

    boolean hasArc(int arc) {
        return arc >= 0 && arc < arcs.size() && arcs.get(arc) != null;
    }

    int comes(int[] flow, int node) {
        return sum(flow, node, 1);
    }

    int goes(int[] flow, int node) {
        return sum(flow, node, 0);
    }

    private int sum(int[] flow, int node, int end) {
        int sum = 0;
        for (int a = 0; a < arcs.size(); a++) {
            if (hasArc(a) && arcs.get(a)[end] == node) {
                sum += flow[a];
            }
        }
        return sum;
    }

    int value(int[] flow) {
        int sum = 0;
        for (int n = 0; n < kinds.size(); n++) {
            if (kinds.get(n) == 1) {
                sum += goes(flow, n) - comes(flow, n);
            }
        }
        return sum;
    }

    boolean isFlow(int[] flow) {
        for (int a = 0; a < arcs.size(); a++) {
            if (hasArc(a) && (flow[a] < arcs.get(a)[2] || flow[a] > arcs.get(a)[3])) {
                return false;
            }
        }
        for (int n = 0; n < kinds.size(); n++) {
            if (!suits(n, comes(flow, n), goes(flow, n))) {
                return false;
            }
        }
        return true;
    }

    private boolean suits(int node, int comes, int goes) {
        int kind = kinds.get(node);
        int bound = bounds.get(node);
        boolean balanced = kind == 0 ? comes == goes : kind == 1 ? goes >= comes : comes >= goes;
        return balanced && (bound == -1 || Math.max(comes, goes) <= bound);
    }
}
