/** Tells all FLOWS one by one, in the order of the ARCS: the document's words, for small graphs alone. */
final class AllFlows implements Oracle {
    private Model model;
    private int way;
    private int[] best;
    private int bestValue;

    @Override
    public boolean hasFlow(Model asked) {
        return first(asked, 0) != null;
    }

    @Override
    public int value(Model asked, int askedWay) {
        first(asked, askedWay);
        return bestValue;
    }

    @Override
    public int[] first(Model asked, int askedWay) {
        model = asked;
        way = askedWay;
        best = null;
        tell(new int[asked.arcs.size()], 0);
        return best;
    }

    @Override
    public boolean hasMore(Model asked, int value) {
        return hasFlow(asked) && value(asked, 0) > value;
    }

    private void tell(int[] flow, int arc) {
        if (arc == flow.length) {
            consider(flow);
            return;
        }
        if (!model.hasArc(arc)) {
            tell(flow, arc + 1);
            return;
        }
        int[] bounds = model.arcs.get(arc);
        for (int told = bounds[2]; told <= bounds[3]; told++) {
            flow[arc] = told;
            tell(flow, arc + 1);
        }
        flow[arc] = 0;
    }

    private void consider(int[] flow) {
        if (!model.isFlow(flow)) {
            return;
        }
        int value = model.value(flow);
        // Those that tell less for the first ARCS come first, so only a better VALUE replaces one.
        if (best == null || (way == 0 ? value > bestValue : value < bestValue)) {
            best = flow.clone();
            bestValue = value;
        }
    }
}
