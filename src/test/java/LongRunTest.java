import java.util.Random;

/** Runs of 512 calls on one object, the dearest ones among them: no call throws, each one ends. */
public final class LongRunTest {
    private static final int CALLS = 512;
    private static final long MOST = 1_000_000_000_000_000L;
    private static final long PATIENCE_MILLIS = 60_000;

    public static void main(String[] args) throws InterruptedException {
        Thread runs = new Thread(LongRunTest::runAll);
        runs.setDaemon(true);
        runs.setUncaughtExceptionHandler((thread, thrown) -> {
            thrown.printStackTrace(System.out);
            Due.holds("no call throws", false);
        });
        runs.start();
        runs.join(PATIENCE_MILLIS);
        Due.holds("each call ends", !runs.isAlive());
        Due.end();
    }

    private static void runAll() {
        manyAsked();
        edgesComeAndGo();
        for (int seed = 0; seed < 300; seed++) {
            anyCalls(new Random(seed));
        }
    }

    /** "As often as one likes" thirteen times in a row: each step sees all 64 points from all. */
    private static int dearPath(PathFinder finder) {
        int calls = 0;
        int[] words = new int[3 * 13 + 12];
        fillDear(words, 0, 13);
        for (int word : words) {
            finder.word(word);
            calls++;
        }
        Due.due("look() of the dear path", finder.look(), 0);
        return calls + 1;
    }

    private static int fillDear(int[] words, int at, int leaves) {
        if (leaves == 1) {
            words[at] = 5;
            words[at + 1] = 7;
            return at + 3;
        }
        words[at] = 2;
        int behind = fillDear(words, at + 1, leaves / 2);
        return fillDear(words, behind, leaves - leaves / 2);
    }

    private static int ring(PathFinder finder) {
        for (int x = 0; x < 64; x++) {
            finder.edge(x, x % 8, (x + 1) % 64);
        }
        return 64;
    }

    private static void manyAsked() {
        PathFinder finder = new PathFinder();
        int calls = ring(finder) + dearPath(finder);
        for (int x = 0; calls + 6 <= CALLS; x = (x + 1) % 64) {
            Due.due("dear times()", finder.times(x, 63 - x), MOST);
            Due.due("dear all()", finder.all(63 - x), MOST);
            Due.due("dear ends()", finder.ends(x), 64);
            Due.due("dear reached()", finder.reached(x), -1L);
            Due.due("dear reaching()", finder.reaching(x), -1L);
            Due.due("dear pairs()", finder.pairs(), 4096);
            calls += 6;
        }
    }

    private static void edgesComeAndGo() {
        PathFinder finder = new PathFinder();
        int calls = ring(finder) + dearPath(finder);
        for (int x = 0; calls + 4 <= CALLS; x = (x + 1) % 64) {
            Due.due("drop of a ring's edge", finder.drop(x, x % 8, (x + 1) % 64), 1);
            Due.due("pairs() of a broken ring", finder.pairs(), 64 * 65 / 2);
            Due.due("edge of a ring", finder.edge(x, x % 8, (x + 1) % 64), 1);
            Due.due("all() of a whole ring", finder.all(x), MOST);
            calls += 4;
        }
    }

    private static void anyCalls(Random random) {
        PathFinder finder = new PathFinder();
        int words = 0;
        int edges = 0;
        for (int call = 0; call < CALLS; call++) {
            int x = drawInt(random, 64);
            int y = drawInt(random, 64);
            switch (random.nextInt(16)) {
                case 0: case 1: case 2: case 3:
                    edges += Math.max(0, finder.edge(x, drawInt(random, 8), y));
                    break;
                case 4:
                    edges -= Math.max(0, finder.drop(x, drawInt(random, 8), y));
                    break;
                case 5: case 6: case 7: case 8:
                    Due.due("word()", finder.word(drawInt(random, 8)), words < 60 ? words + 1 : PathFinder.FULL);
                    words = Math.min(60, words + 1);
                    break;
                case 9:
                    if (random.nextInt(3) == 0) {
                        Due.due("clear()", finder.clear(), words);
                        words = 0;
                    }
                    break;
                case 10:
                    within("times()", finder.times(x, y), MOST);
                    break;
                case 11:
                    within("ends()", finder.ends(x), 64);
                    break;
                case 12:
                    if (random.nextBoolean()) {
                        finder.reached(x);
                    } else {
                        finder.reaching(y);
                    }
                    break;
                case 13:
                    within("all()", finder.all(x), MOST);
                    break;
                case 14:
                    within("pairs()", finder.pairs(), 4096);
                    break;
                default:
                    Due.due("edges()", finder.edges(), edges);
                    break;
            }
        }
    }

    private static void within(String call, long got, long most) {
        Due.holds(call + " in its bounds: " + got, got >= PathFinder.NO && got <= most);
    }

    private static int drawInt(Random random, int bound) {
        return random.nextInt(20) == 0 ? random.nextInt() : random.nextInt(bound + 1) - random.nextInt(2);
    }
}
