/**
 * The class and its naive twin: every call goes to both, and their answers must be the same. Every call
 * answers what the class answered.
 */
final class Pair {
    private static final int MOST_CALLS = 512;
    private final GreatestFlow mine = new GreatestFlow();
    private final Naive twin;
    private final Check check;
    private final StringBuilder told = new StringBuilder();
    private String last = "";
    private int calls;

    Pair(Oracle oracle, Check check) {
        this.twin = new Naive(oracle);
        this.check = check;
    }

    int nodeNumbers() {
        return twin.nodeNumbers();
    }

    int arcNumbers() {
        return twin.arcNumbers();
    }

    /** The last call, as a text. */
    String last() {
        return last;
    }

    int node() {
        return same("node()", mine.node(), twin.node(), true);
    }

    int kind(int n, int kind) {
        return same("kind(" + n + ", " + kind + ")", mine.kind(n, kind), twin.kind(n, kind), true);
    }

    int bound(int n, int most) {
        return same("bound(" + n + ", " + most + ")", mine.bound(n, most), twin.bound(n, most), true);
    }

    int arc(int from, int to, int least, int most) {
        return same("arc(" + from + ", " + to + ", " + least + ", " + most + ")",
                mine.arc(from, to, least, most), twin.arc(from, to, least, most), true);
    }

    int change(int a, int least, int most) {
        return same("change(" + a + ", " + least + ", " + most + ")",
                mine.change(a, least, most), twin.change(a, least, most), true);
    }

    int drop(int a) {
        return same("drop(" + a + ")", mine.drop(a), twin.drop(a), true);
    }

    int clear() {
        return same("clear()", mine.clear(), twin.clear(), true);
    }

    int run() {
        return same("run()", mine.run(), twin.run(), false);
    }

    int value(int way) {
        return same("value(" + way + ")", mine.value(way), twin.value(way), false);
    }

    int on(int way, int a) {
        return same("on(" + way + ", " + a + ")", mine.on(way, a), twin.on(way, a), false);
    }

    int through(int way, int n) {
        return same("through(" + way + ", " + n + ")", mine.through(way, n), twin.through(way, n), false);
    }

    int near(int n) {
        return same("near(" + n + ")", mine.near(n), twin.near(n), false);
    }

    int far(int n) {
        return same("far(" + n + ")", mine.far(n), twin.far(n), false);
    }

    int tight(int a) {
        return same("tight(" + a + ")", mine.tight(a), twin.tight(a), false);
    }

    int barred(int k) {
        return same("barred(" + k + ")", mine.barred(k), twin.barred(k), false);
    }

    int streams() {
        return same("streams()", mine.streams(), twin.streams(), false);
    }

    int stream(int k, int what) {
        return same("stream(" + k + ", " + what + ")", mine.stream(k, what), twin.stream(k, what), false);
    }

    /** Asks everything there is to ask, the numbers just outside too. */
    void askAll() {
        run();
        for (int way = -1; way <= 2; way++) {
            value(way);
            on(way, 0);
            through(way, 0);
        }
        for (int way = 0; way < 2; way++) {
            for (int a = -1; a <= arcNumbers(); a++) {
                on(way, a);
            }
            for (int n = -1; n <= nodeNumbers(); n++) {
                through(way, n);
            }
        }
        for (int n = -1; n <= nodeNumbers(); n++) {
            near(n);
            far(n);
        }
        for (int a = -1; a <= arcNumbers(); a++) {
            tight(a);
        }
        askBarred();
        askStreams();
    }

    private void askBarred() {
        barred(-1);
        int k = 0;
        while (twin.barred(k) >= 0) {
            barred(k);
            k++;
        }
        barred(k);
        barred(k + 1);
    }

    private void askStreams() {
        streams();
        int count = twin.streams();
        for (int k = -1; k <= count; k++) {
            int arcs = twin.stream(k, 1);
            for (int what = -1; what <= arcs + 2; what++) {
                stream(k, what);
            }
        }
    }

    private int same(String call, int got, int want, boolean changes) {
        last = call;
        calls++;
        // What later calls answer is free, so a test that needs more of them proves nothing.
        if (calls > MOST_CALLS) {
            check.holds("an object has 512 calls at most", false);
        }
        if (changes) {
            told.append(call).append("; ");
        }
        check.due(got == want ? call : told + ".. " + call, got, want);
        return got;
    }
}
