import java.util.Random;

/** All promises: calls of every kind in any order, many of them wrong; none may throw. */
public final class WildCallsTest {
    private static final int[] WILD = {
        -1, -2, -3, 3, 10, 11, 40, 41, 1000, 1001, 100000, 100001,
        Integer.MIN_VALUE, Integer.MIN_VALUE + 1, Integer.MAX_VALUE, Integer.MAX_VALUE - 1
    };

    public static void main(String[] args) {
        Check check = new Check();
        Random random = new Random(3);
        for (int object = 0; object < 500 && check.isClean(); object++) {
            Pair pair = new Pair(new Halving(), check);
            int clears = random.nextInt(3);
            for (int call = 0; call < 512 && check.isClean(); call++) {
                if (call < 40 || random.nextInt(5) == 0) {
                    alter(pair, random, clears);
                } else {
                    ask(pair, random);
                }
            }
        }
        check.end();
    }

    private static void alter(Pair pair, Random random, int clears) {
        int least = any(random, 4);
        int most = any(random, 30);
        switch (random.nextInt(10)) {
            case 0:
            case 1:
                pair.node();
                break;
            case 2:
                pair.kind(any(random, pair.nodeNumbers()), any(random, 3));
                break;
            case 3:
                pair.bound(any(random, pair.nodeNumbers()), any(random, 60) - 1);
                break;
            case 4:
                pair.change(any(random, pair.arcNumbers()), least, most);
                break;
            case 5:
                pair.drop(any(random, pair.arcNumbers()));
                break;
            case 6:
                if (random.nextInt(10) < clears) {
                    pair.clear();
                }
                break;
            default:
                pair.arc(any(random, pair.nodeNumbers()), any(random, pair.nodeNumbers()), least, most);
                break;
        }
    }

    private static void ask(Pair pair, Random random) {
        int node = any(random, pair.nodeNumbers());
        int arc = any(random, pair.arcNumbers());
        int way = any(random, 2);
        switch (random.nextInt(10)) {
            case 0:
                pair.run();
                break;
            case 1:
                pair.value(way);
                break;
            case 2:
                pair.on(way, arc);
                break;
            case 3:
                pair.through(way, node);
                break;
            case 4:
                pair.near(node);
                break;
            case 5:
                pair.far(node);
                break;
            case 6:
                pair.tight(arc);
                break;
            case 7:
                pair.barred(any(random, 4));
                break;
            case 8:
                pair.streams();
                break;
            default:
                pair.stream(any(random, 5), any(random, 8));
                break;
        }
    }

    private static int any(Random random, int below) {
        if (below == 0 || random.nextInt(15) == 0) {
            return WILD[random.nextInt(WILD.length)];
        }
        return random.nextInt(below);
    }
}
