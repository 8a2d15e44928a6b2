import java.util.Random;

/** Promises 9 to 18 on graphs up to 10 NODES and 40 ARCS, against another algorithm. */
public final class LargeGraphsTest {
    public static void main(String[] args) {
        Check check = new Check();
        Random random = new Random(2);
        int with = 0;
        int without = 0;
        for (int graph = 0; graph < 600 && check.isClean(); graph++) {
            Pair pair = new Pair(new Halving(), check);
            build(pair, random);
            pair.askAll();
            if (pair.run() == 1) {
                with++;
            } else {
                without++;
            }
        }
        check.holds("many graphs with a FLOW: " + with, with > 200);
        check.holds("many graphs without: " + without, without > 100);
        fullest(check);
        check.end();
    }

    private static void build(Pair pair, Random random) {
        int nodes = 6 + random.nextInt(5);
        int[] tops = {3, 20, 1000};
        int top = tops[random.nextInt(tops.length)];
        int bounded = random.nextInt(4);
        for (int n = 0; n < nodes; n++) {
            pair.node();
            int kind = random.nextInt(6);
            pair.kind(n, kind > 2 ? 0 : kind);
            if (random.nextInt(6) < bounded) {
                pair.bound(n, random.nextInt(5 * top + 1));
            }
        }
        int arcs = 15 + random.nextInt(26);
        int leasts = random.nextInt(5);
        for (int a = 0; a < arcs; a++) {
            int from = random.nextInt(nodes);
            int to = (from + 1 + random.nextInt(nodes - 1)) % nodes;
            int most = random.nextInt(top + 1);
            int least = random.nextInt(8) < leasts ? random.nextInt(most / 2 + 1) : 0;
            pair.arc(from, to, least, most);
        }
        for (int a = 0; a < random.nextInt(6); a++) {
            pair.drop(random.nextInt(arcs));
        }
    }

    /** All ARCS at one pair of NODES, with all that they can carry: the greatest numbers there are. */
    private static void fullest(Check check) {
        askFull(check, 2, -1, -1);
        askFull(check, 2, -1, 39999);
        askFull(check, 2, 19999, 39999);
        askFull(check, 0, 100000, 39999);
    }

    private static void askFull(Check check, int kindOfEnd, int boundOfStart, int boundOfEnd) {
        Pair pair = new Pair(new Halving(), check);
        pair.node();
        pair.node();
        pair.kind(0, 1);
        pair.kind(1, kindOfEnd);
        pair.bound(0, boundOfStart);
        pair.bound(1, boundOfEnd);
        for (int a = 0; a < 40; a++) {
            pair.arc(0, 1, a % 2 == 0 ? 1000 : 0, 1000);
        }
        pair.askAll();
    }
}
