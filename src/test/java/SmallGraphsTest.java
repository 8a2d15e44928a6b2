import java.util.Random;

/** Promises 9 to 18 on many small graphs, against all FLOWS told one by one. */
public final class SmallGraphsTest {
    public static void main(String[] args) {
        Check check = new Check();
        Random random = new Random(1);
        int with = 0;
        int without = 0;
        for (int graph = 0; graph < 1500 && check.isClean(); graph++) {
            Pair pair = new Pair(new AllFlows(), check);
            build(pair, random);
            for (int round = 0; round < 3; round++) {
                pair.askAll();
                if (pair.run() == 1) {
                    with++;
                } else {
                    without++;
                }
                alter(pair, random);
            }
        }
        check.holds("many graphs with a FLOW: " + with, with > 1000);
        check.holds("many graphs without: " + without, without > 500);
        check.end();
    }

    private static void build(Pair pair, Random random) {
        int nodes = 2 + random.nextInt(4);
        for (int n = 0; n < nodes; n++) {
            pair.node();
            pair.kind(n, random.nextInt(3));
            if (random.nextInt(4) == 0) {
                pair.bound(n, random.nextInt(5));
            }
        }
        int arcs = random.nextInt(7);
        int leasts = random.nextInt(4);
        for (int a = 0; a < arcs; a++) {
            int from = random.nextInt(nodes);
            int to = (from + 1 + random.nextInt(nodes - 1)) % nodes;
            int most = random.nextInt(4);
            int least = random.nextInt(4) < leasts ? random.nextInt(most + 1) : 0;
            pair.arc(from, to, least, most);
        }
    }

    private static void alter(Pair pair, Random random) {
        int node = random.nextInt(pair.nodeNumbers());
        int arc = random.nextInt(pair.arcNumbers() + 1);
        int most = random.nextInt(4);
        switch (random.nextInt(4)) {
            case 0:
                pair.kind(node, random.nextInt(3));
                break;
            case 1:
                pair.bound(node, random.nextInt(6) - 1);
                break;
            case 2:
                pair.change(arc, random.nextInt(most + 1), most);
                break;
            default:
                pair.drop(arc);
                break;
        }
    }
}
