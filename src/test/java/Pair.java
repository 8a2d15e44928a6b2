/** The class and its naive twin: every call goes to both, and their answers must be the same. */
final class Pair {
    private final GreatestFlow mine = new GreatestFlow();
    private final Naive twin;
    private final Check check;
    private final StringBuilder told = new StringBuilder();

    Pair(Oracle oracle, Check check) {
        this.twin = new Naive(oracle);
        this.check = check;
    }

    int nodeNumbers() {
        return twin.nodeNumbers();
    }

    int arcNumbers() {
        return twin.arcNumbers();
    }

    void node() {
        same("node()", mine.node(), twin.node(), true);
    }

    void kind(int n, int kind) {
        same("kind(" + n + ", " + kind + ")", mine.kind(n, kind), twin.kind(n, kind), true);
    }

    void bound(int n, int most) {
        same("bound(" + n + ", " + most + ")", mine.bound(n, most), twin.bound(n, most), true);
    }

    void arc(int from, int to, int least, int most) {
        same("arc(" + from + ", " + to + ", " + least + ", " + most + ")",
                mine.arc(from, to, least, most), twin.arc(from, to, least, most), true);
    }

    void change(int a, int least, int most) {
        same("change(" + a + ", " + least + ", " + most + ")",
                mine.change(a, least, most), twin.change(a, least, most), true);
    }

    void drop(int a) {
        same("drop(" + a + ")", mine.drop(a), twin.drop(a), true);
    }

    void clear() {
        same("clear()", mine.clear(), twin.clear(), true);
    }

    int run() {
        same("run()", mine.run(), twin.run(), false);
        return twin.run();
    }

    void value(int way) {
        same("value(" + way + ")", mine.value(way), twin.value(way), false);
    }

    void on(int way, int a) {
        same("on(" + way + ", " + a + ")", mine.on(way, a), twin.on(way, a), false);
    }

    void through(int way, int n) {
        same("through(" + way + ", " + n + ")", mine.through(way, n), twin.through(way, n), false);
    }

    void near(int n) {
        same("near(" + n + ")", mine.near(n), twin.near(n), false);
    }

    void far(int n) {
        same("far(" + n + ")", mine.far(n), twin.far(n), false);
    }

    void tight(int a) {
        same("tight(" + a + ")", mine.tight(a), twin.tight(a), false);
    }

    void barred(int k) {
        same("barred(" + k + ")", mine.barred(k), twin.barred(k), false);
    }

    int streams() {
        same("streams()", mine.streams(), twin.streams(), false);
        return twin.streams();
    }

    void stream(int k, int what) {
        same("stream(" + k + ", " + what + ")", mine.stream(k, what), twin.stream(k, what), false);
    }

    /** Asks everything there is to ask, the numbers just outside too. */
    void askAll() {
        run();
        for (int way = -1; way <= 2; way++) {
            value(way);
            for (int a = -1; a <= arcNumbers(); a++) {
                on(way, a);
            }
            for (int n = -1; n <= nodeNumbers(); n++) {
                through(way, n);
            }
        }
        for (int n = -1; n <= nodeNumbers(); n++) {
            near(n);
            far(n);
        }
        for (int a = -1; a <= arcNumbers(); a++) {
            tight(a);
            barred(a);
        }
        int count = streams();
        for (int k = -1; k <= count; k++) {
            for (int what = -1; what <= 12; what++) {
                stream(k, what);
            }
        }
    }

    private void same(String call, int got, int want, boolean changes) {
        if (changes) {
            told.append(call).append("; ");
        }
        check.due(got == want ? call : told + ".. " + call, got, want);
    }
}
