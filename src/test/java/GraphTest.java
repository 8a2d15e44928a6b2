/** Promises 1 to 8: a new object, node, kind, bound, arc, change, drop, clear. */
public final class GraphTest {
    private static final int[] NOT_NUMBERS = {-1, Integer.MIN_VALUE, Integer.MAX_VALUE};
    private static final Check CHECK = new Check();

    public static void main(String[] args) {
        newObject();
        node();
        kind();
        bound();
        arc();
        arcRoom();
        change();
        drop();
        clear();
        refusalsChangeNothing();
        CHECK.end();
    }

    private static void newObject() {
        GreatestFlow x = new GreatestFlow();
        CHECK.due("new: kind(0, 0)", x.kind(0, 0), -1);
        CHECK.due("new: bound(0, 0)", x.bound(0, 0), -1);
        CHECK.due("new: arc(0, 1, 0, 0)", x.arc(0, 1, 0, 0), -1);
        CHECK.due("new: change(0, 0, 0)", x.change(0, 0, 0), -1);
        CHECK.due("new: drop(0)", x.drop(0), -1);
        CHECK.due("new: run()", x.run(), 1);
        CHECK.due("new: value(0)", x.value(0), 0);
        CHECK.due("new: streams()", x.streams(), 0);
        CHECK.due("new: clear()", x.clear(), 0);
        GreatestFlow y = new GreatestFlow();
        x.node();
        CHECK.due("objects do not share NODES", y.clear(), 0);
    }

    private static void node() {
        GreatestFlow x = new GreatestFlow();
        for (int i = 0; i < 10; i++) {
            CHECK.due("node()", x.node(), i);
            CHECK.due("a new NODE rests", x.kind(i, i % 3), 0);
        }
        CHECK.due("node() without room", x.node(), -4);
        CHECK.due("node() without room again", x.node(), -4);
        CHECK.due("kind(10, 0)", x.kind(10, 0), -1);
        CHECK.due("clear()", x.clear(), 10);
        CHECK.due("node() after clear", x.node(), 0);
    }

    private static void kind() {
        GreatestFlow x = withNodes(3);
        int was = 0;
        int[] kinds = {0, 1, 1, 2, 0, 2, 1, 0};
        for (int kind : kinds) {
            CHECK.due("kind(1, " + kind + ")", x.kind(1, kind), was);
            was = kind;
        }
        CHECK.due("kind(0, 0), another NODE", x.kind(0, 2), 0);
        for (int no : NOT_NUMBERS) {
            CHECK.due("kind(" + no + ", 1)", x.kind(no, 1), -1);
            CHECK.due("kind(0, " + no + ")", x.kind(0, no), -2);
            CHECK.due("kind(" + no + ", 3): the first refusal", x.kind(no, 3), -1);
        }
        CHECK.due("kind(3, 1)", x.kind(3, 1), -1);
        CHECK.due("kind(0, 3)", x.kind(0, 3), -2);
        CHECK.due("refused kinds change nothing", x.kind(0, 1), 2);
    }

    private static void bound() {
        GreatestFlow x = path();
        CHECK.due("no BOUND at first", x.value(0), 9);
        CHECK.due("bound(1, 0)", x.bound(1, 0), 1);
        CHECK.due("value with BOUND 0", x.value(0), 0);
        CHECK.due("bound(1, 4)", x.bound(1, 4), 1);
        CHECK.due("value with BOUND 4", x.value(0), 4);
        CHECK.due("bound(1, 100000)", x.bound(1, 100000), 1);
        CHECK.due("value with BOUND 100000", x.value(0), 9);
        CHECK.due("bound(0, 3)", x.bound(0, 3), 1);
        CHECK.due("value with the SOURCE's BOUND 3", x.value(0), 3);
        CHECK.due("bound(0, -1)", x.bound(0, -1), 1);
        CHECK.due("bound(2, 2)", x.bound(2, 2), 1);
        CHECK.due("value with the SINK's BOUND 2", x.value(0), 2);
        CHECK.due("bound(2, -1)", x.bound(2, -1), 1);
        CHECK.due("value without BOUND", x.value(0), 9);
        CHECK.due("bound(1, -2)", x.bound(1, -2), -2);
        CHECK.due("bound(1, 100001)", x.bound(1, 100001), -2);
        CHECK.due("bound(1, MIN)", x.bound(1, Integer.MIN_VALUE), -2);
        CHECK.due("bound(1, MAX)", x.bound(1, Integer.MAX_VALUE), -2);
        for (int no : NOT_NUMBERS) {
            CHECK.due("bound(" + no + ", 1)", x.bound(no, 1), -1);
            CHECK.due("bound(" + no + ", -2): the first refusal", x.bound(no, -2), -1);
        }
        CHECK.due("bound(3, 1)", x.bound(3, 1), -1);
        CHECK.due("refused BOUNDS change nothing", x.value(0), 9);
    }

    private static void arc() {
        GreatestFlow x = withNodes(3);
        CHECK.due("arc(0, 1, 0, 0)", x.arc(0, 1, 0, 0), 0);
        CHECK.due("arc(0, 1, 0, 1000), beside another", x.arc(0, 1, 0, 1000), 1);
        CHECK.due("arc(1, 0, 1000, 1000), back", x.arc(1, 0, 1000, 1000), 2);
        for (int no : NOT_NUMBERS) {
            CHECK.due("arc from " + no, x.arc(no, 1, 0, 1), -1);
            CHECK.due("arc to " + no, x.arc(1, no, 0, 1), -1);
            CHECK.due("arc with LEAST " + no, x.arc(0, 1, no, 5), -2);
            CHECK.due("arc from " + no + " and LEAST -1: the first refusal", x.arc(no, 1, -1, 5), -1);
        }
        CHECK.due("arc(0, 3, 0, 1)", x.arc(0, 3, 0, 1), -1);
        CHECK.due("arc(3, 0, 0, 1)", x.arc(3, 0, 0, 1), -1);
        CHECK.due("arc(2, 2, 0, 1)", x.arc(2, 2, 0, 1), -1);
        CHECK.due("arc(2, 2, 3, 1): the first refusal", x.arc(2, 2, 3, 1), -1);
        CHECK.due("arc(0, 1, -1, 1)", x.arc(0, 1, -1, 1), -2);
        CHECK.due("arc(0, 1, 2, 1)", x.arc(0, 1, 2, 1), -2);
        CHECK.due("arc(0, 1, 0, 1001)", x.arc(0, 1, 0, 1001), -2);
        CHECK.due("arc(0, 1, 1001, 1001)", x.arc(0, 1, 1001, 1001), -2);
        CHECK.due("arc(0, 1, -2, -1)", x.arc(0, 1, -2, -1), -2);
        CHECK.due("refused ARCS take no number", x.arc(1, 2, 0, 1), 3);
        CHECK.due("on(0, 1)", x.on(0, 1), 1000);
    }

    private static void arcRoom() {
        GreatestFlow x = withNodes(2);
        for (int i = 0; i < 40; i++) {
            CHECK.due("arc()", x.arc(i % 2, 1 - i % 2, 0, i), i);
        }
        CHECK.due("arc without room", x.arc(0, 1, 0, 1), -4);
        CHECK.due("arc without room, wrong NODE", x.arc(0, 2, 0, 1), -1);
        CHECK.due("arc without room, wrong bounds", x.arc(0, 1, 1, 0), -2);
        CHECK.due("drop(39)", x.drop(39), 39);
        CHECK.due("arc: dropped ones are counted", x.arc(0, 1, 0, 1), -4);
        CHECK.due("clear()", x.clear(), 2);
        x.node();
        x.node();
        CHECK.due("arc after clear", x.arc(0, 1, 0, 1), 0);
    }

    private static void change() {
        GreatestFlow x = path();
        CHECK.due("change(0, 2, 7)", x.change(0, 2, 7), 1);
        CHECK.due("value(0) after it", x.value(0), 7);
        CHECK.due("value(1) after it", x.value(1), 2);
        CHECK.due("change(0, 1000, 1000)", x.change(0, 1000, 1000), 1);
        CHECK.due("run() after it", x.run(), 0);
        CHECK.due("change(0, 0, 0)", x.change(0, 0, 0), 1);
        CHECK.due("value(0) after it", x.value(0), 0);
        CHECK.due("change(0, 0, 3)", x.change(0, 0, 3), 1);
        CHECK.due("change(0, -1, 3)", x.change(0, -1, 3), -2);
        CHECK.due("change(0, 4, 3)", x.change(0, 4, 3), -2);
        CHECK.due("change(0, 0, 1001)", x.change(0, 0, 1001), -2);
        CHECK.due("change(0, 0, MAX)", x.change(0, 0, Integer.MAX_VALUE), -2);
        for (int no : NOT_NUMBERS) {
            CHECK.due("change(" + no + ", 0, 1)", x.change(no, 0, 1), -1);
            CHECK.due("change(" + no + ", 1, 0): the first refusal", x.change(no, 1, 0), -1);
        }
        CHECK.due("change(2, 0, 1)", x.change(2, 0, 1), -1);
        CHECK.due("refused changes change nothing", x.value(0), 3);
        x.drop(0);
        CHECK.due("change of a dropped ARC", x.change(0, 0, 1), -1);
    }

    private static void drop() {
        GreatestFlow x = withNodes(3);
        x.kind(0, 1);
        x.kind(2, 2);
        x.arc(0, 2, 0, 1);
        x.arc(0, 2, 0, 10);
        x.arc(0, 2, 5, 100);
        CHECK.due("value(0)", x.value(0), 111);
        CHECK.due("drop(1)", x.drop(1), 2);
        CHECK.due("value(0) without ARC 1", x.value(0), 101);
        CHECK.due("on(0, 1), dropped", x.on(0, 1), -1);
        CHECK.due("tight(1), dropped", x.tight(1), -1);
        CHECK.due("drop(1) again", x.drop(1), -1);
        for (int no : NOT_NUMBERS) {
            CHECK.due("drop(" + no + ")", x.drop(no), -1);
        }
        CHECK.due("drop(3)", x.drop(3), -1);
        CHECK.due("a number does not come again", x.arc(0, 2, 0, 7), 3);
        CHECK.due("drop(3)", x.drop(3), 2);
        CHECK.due("the next number", x.arc(0, 2, 0, 8), 4);
        CHECK.due("value(0)", x.value(0), 109);
        CHECK.due("drop(2)", x.drop(2), 2);
        CHECK.due("value(1) without a LEAST", x.value(1), 0);
        CHECK.due("drop(0)", x.drop(0), 1);
        CHECK.due("drop(4)", x.drop(4), 0);
        CHECK.due("value(0) without ARCS", x.value(0), 0);
        CHECK.due("through(0, 0) without ARCS", x.through(0, 0), 0);
    }

    private static void clear() {
        GreatestFlow x = path();
        x.bound(1, 4);
        x.drop(1);
        CHECK.due("clear()", x.clear(), 3);
        CHECK.due("clear() again", x.clear(), 0);
        CHECK.due("no NODES", x.kind(0, 0), -1);
        CHECK.due("no ARCS", x.on(0, 0), -1);
        CHECK.due("drop(0)", x.drop(0), -1);
        CHECK.due("value(0)", x.value(0), 0);
        for (int i = 0; i < 3; i++) {
            CHECK.due("node() after clear", x.node(), i);
            CHECK.due("its KIND after clear", x.kind(i, i), 0);
        }
        CHECK.due("arc after clear", x.arc(1, 0, 0, 9), 0);
        CHECK.due("arc after clear", x.arc(0, 2, 0, 9), 1);
        CHECK.due("no BOUND, no dropped ARC after clear", x.value(0), 9);
        CHECK.due("clear()", x.clear(), 3);
    }

    private static void refusalsChangeNothing() {
        GreatestFlow x = path();
        int before = x.value(0);
        x.arc(0, 0, 0, 5);
        x.arc(0, 2, 5, 1);
        x.kind(1, 7);
        x.bound(1, -7);
        x.change(0, 3, 2);
        x.drop(9);
        CHECK.due("value(0) after refusals", x.value(0), before);
        CHECK.due("the next ARC after refusals", x.arc(0, 2, 0, 1), 2);
        CHECK.due("clear() after refusals", x.clear(), 3);
    }

    private static GreatestFlow withNodes(int count) {
        GreatestFlow x = new GreatestFlow();
        for (int i = 0; i < count; i++) {
            x.node();
        }
        return x;
    }

    private static GreatestFlow path() {
        GreatestFlow x = withNodes(3);
        x.kind(0, 1);
        x.kind(2, 2);
        x.arc(0, 1, 0, 9);
        x.arc(1, 2, 0, 12);
        return x;
    }
}
