/** A way to find FLOWS that is not the class's own. */
interface Oracle {
    boolean hasFlow(Model model);

    /** The greatest or least VALUE; asked only where there is a FLOW. */
    int value(Model model, int way);

    /** A WAY's FLOW, a number for each ARC; asked only where there is a FLOW. */
    int[] first(Model model, int way);

    /** Whether there is a FLOW with more than this VALUE. */
    boolean hasMore(Model model, int value);
}
