import java.util.function.ToIntFunction;

/** "An object is used for at most 512 calls after it has been made": so the 512th call still holds its promise. */
public final class CallsTest {
    private static final int MOST_CALLS = 512;
    private static final Check CHECK = new Check();

    public static void main(String[] args) {
        theLastCallOfEachKind();
        theSameQuestionAllTheTime();
        fullAndClearedAgain();
        theDearestCalls();
        refusedCallsOnly();
        CHECK.end();
    }

    private static void theLastCallOfEachKind() {
        last("node()", 3, GreatestFlow::node);
        last("kind(1, 2)", 0, x -> x.kind(1, 2));
        last("bound(1, 2)", 1, x -> x.bound(1, 2));
        last("arc(0, 2, 0, 1)", 2, x -> x.arc(0, 2, 0, 1));
        last("change(1, 0, 1)", 1, x -> x.change(1, 0, 1));
        last("drop(1)", 1, x -> x.drop(1));
        last("clear()", 3, GreatestFlow::clear);
        last("run()", 1, GreatestFlow::run);
        last("value(0)", 7, x -> x.value(0));
        last("value(1)", 2, x -> x.value(1));
        last("on(0, 1)", 7, x -> x.on(0, 1));
        last("through(1, 1)", 2, x -> x.through(1, 1));
        last("near(1)", 0, x -> x.near(1));
        last("far(1)", 1, x -> x.far(1));
        last("tight(0)", 1, x -> x.tight(0));
        last("barred(0)", -2, x -> x.barred(0));
        last("streams()", 1, GreatestFlow::streams);
        last("stream(0, 3)", 1, x -> x.stream(0, 3));
    }

    /** 511 calls, most of them changes and questions in turn, before the one that is asked for. */
    private static void last(String text, int want, ToIntFunction<GreatestFlow> call) {
        GreatestFlow x = new GreatestFlow();
        int calls = build(x);
        while (calls < MOST_CALLS - 3) {
            int most = 2 + calls % 11;
            x.change(0, 0, most);
            CHECK.due("value(0) at call " + (calls + 2), x.value(0), Math.min(most, 9));
            calls += 2;
        }
        x.change(0, 0, 7);
        x.run();
        CHECK.due("calls before the last", calls + 2, MOST_CALLS - 1);
        CHECK.due(text + " at call 512", call.applyAsInt(x), want);
    }

    /** A SOURCE, a NODE that rests and a SINK in a row: how many calls it took. */
    private static int build(GreatestFlow x) {
        x.node();
        x.node();
        x.node();
        x.kind(0, 1);
        x.kind(2, 2);
        x.arc(0, 1, 0, 7);
        x.arc(1, 2, 2, 9);
        return 7;
    }

    private static void theSameQuestionAllTheTime() {
        again("run()", 1, GreatestFlow::run);
        again("value(0)", 7, x -> x.value(0));
        again("value(1)", 2, x -> x.value(1));
        again("on(1, 0)", 2, x -> x.on(1, 0));
        again("through(0, 2)", 7, x -> x.through(0, 2));
        again("near(1)", 0, x -> x.near(1));
        again("far(1)", 1, x -> x.far(1));
        again("tight(0)", 1, x -> x.tight(0));
        again("barred(0)", -2, x -> x.barred(0));
        again("streams()", 1, GreatestFlow::streams);
        again("stream(0, 0)", 7, x -> x.stream(0, 0));
    }

    private static void again(String text, int want, ToIntFunction<GreatestFlow> call) {
        GreatestFlow x = new GreatestFlow();
        for (int calls = build(x); calls < MOST_CALLS; calls++) {
            CHECK.due(text + " at call " + (calls + 1), call.applyAsInt(x), want);
        }
    }

    private static void fullAndClearedAgain() {
        GreatestFlow x = new GreatestFlow();
        int calls = 0;
        for (int round = 0; round < 9; round++) {
            for (int n = 0; n < 10; n++) {
                CHECK.due("node() in round " + round, x.node(), n);
            }
            CHECK.due("node() without room", x.node(), -4);
            for (int a = 0; a < 40; a++) {
                CHECK.due("arc() in round " + round, x.arc(a % 10, (a + 1) % 10, 0, 1), a);
            }
            CHECK.due("arc() without room", x.arc(0, 1, 0, 1), -4);
            CHECK.due("clear() in round " + round, x.clear(), 10);
            calls += 53;
        }
        CHECK.holds("512 calls at most", calls <= MOST_CALLS);
    }

    /** Each change makes all answers be found anew, in a graph that has all NODES and ARCS. */
    private static void theDearestCalls() {
        GreatestFlow x = new GreatestFlow();
        for (int n = 0; n < 10; n++) {
            x.node();
        }
        x.kind(0, 1);
        x.kind(9, 2);
        for (int a = 0; a < 40; a++) {
            x.arc(a % 9, a % 9 + 1, a % 3 == 0 ? 1 : 0, 1000 - a);
        }
        // From NODE 8 lead ARCS 8, 17, 26 and 35, which together let least on.
        int others = 983 + 974 + 965;
        for (int calls = 52; calls + 4 <= MOST_CALLS; calls += 4) {
            int most = 992 - calls;
            x.change(8, 0, most);
            CHECK.due("value(0) at call " + (calls + 2), x.value(0), most + others);
            CHECK.due("tight(8) at call " + (calls + 3), x.tight(8), 1);
            CHECK.due("near(8) at call " + (calls + 4), x.near(8), 1);
        }
    }

    private static void refusedCallsOnly() {
        GreatestFlow x = new GreatestFlow();
        for (int call = 0; call < MOST_CALLS - 2; call++) {
            CHECK.due("arc() without NODES", x.arc(0, 1, 0, 1), -1);
        }
        CHECK.due("node() at call 511", x.node(), 0);
        CHECK.due("clear() at call 512", x.clear(), 1);
    }
}
