import java.math.BigInteger;
import java.util.ArrayList;
import java.util.Arrays;
import java.util.List;
import java.util.Random;

/** Promises 8 to 13 on drawn edges and paths, held against the document's words taken literally. */
public final class MeaningTest {
    private static final int RUNS = 400;

    public static void main(String[] args) {
        Random random = new Random(20261115);
        for (int run = 0; run < RUNS; run++) {
            runOnce(random);
        }
        Due.end();
    }

    private static void runOnce(Random random) {
        PathFinder finder = new PathFinder();
        boolean[][][] edges = new boolean[64][8][64];
        drawEdges(random, finder, edges);
        for (int n = 0; n < 3; n++) {
            int[] words = drawPath(random);
            Due.path(finder, words);
            Due.due("look() of " + Arrays.toString(words), finder.look(), Meaning.look(words));
            if (finder.look() == 0) {
                compare(finder, Meaning.times(edges, words), Arrays.toString(words));
            }
        }
    }

    private static void drawEdges(Random random, PathFinder finder, boolean[][][] edges) {
        int points = 1 + random.nextInt(random.nextBoolean() ? 6 : 64);
        int labels = 1 + random.nextInt(8);
        int many = random.nextInt(400);
        int count = 0;
        for (int n = 0; n < many; n++) {
            int from = random.nextInt(points);
            int label = random.nextInt(labels);
            int to = random.nextInt(points);
            boolean there = edges[from][label][to];
            if (random.nextInt(5) == 0) {
                Due.due("drop of a drawn edge", finder.drop(from, label, to), there ? 1 : 0);
                edges[from][label][to] = false;
                count -= there ? 1 : 0;
            } else {
                Due.due("edge of a drawn edge", finder.edge(from, label, to), there ? 0 : 1);
                edges[from][label][to] = true;
                count += there ? 0 : 1;
            }
        }
        Due.due("edges() of the drawn ones", finder.edges(), count);
    }

    private static int[] drawPath(Random random) {
        List<Integer> words = new ArrayList<>();
        do {
            words.clear();
            draw(random, words, 1, 1 + random.nextInt(12), random.nextInt(8));
        } while (words.size() > 60);
        int[] row = new int[words.size()];
        for (int n = 0; n < row.length; n++) {
            row[n] = words.get(n);
        }
        return row;
    }

    /** The taste says how often parts of two parts are drawn, so that counts grow large at times. */
    private static void draw(Random random, List<Integer> words, int depth, int deepest, int taste) {
        if (depth >= deepest || random.nextInt(8) == 0) {
            boolean one = random.nextInt(4) != 0;
            words.add(one ? 0 : 7);
            words.add(random.nextInt(one ? 8 : 256) & (random.nextBoolean() ? 1 : 255));
            return;
        }
        int kind = random.nextInt(8) < taste ? 2 + random.nextInt(2) : new int[] {1, 4, 5, 6}[random.nextInt(4)];
        words.add(kind);
        draw(random, words, depth + 1, deepest, taste);
        if (kind == 2 || kind == 3) {
            draw(random, words, depth + 1, deepest, taste);
        }
    }

    private static void compare(PathFinder finder, BigInteger[][] want, String path) {
        long[] reaching = new long[64];
        int pairs = 0;
        for (int x = 0; x < 64; x++) {
            BigInteger all = BigInteger.ZERO;
            long reached = 0;
            for (int y = 0; y < 64; y++) {
                Due.due("times(" + x + ", " + y + ") of " + path, finder.times(x, y), Meaning.cut(want[x][y]));
                all = all.add(want[x][y]);
                if (want[x][y].signum() != 0) {
                    reached |= 1L << y;
                    reaching[y] |= 1L << x;
                    pairs++;
                }
            }
            Due.due("all(" + x + ") of " + path, finder.all(x), Meaning.cut(all));
            Due.due("reached(" + x + ") of " + path, finder.reached(x), reached);
            Due.due("ends(" + x + ") of " + path, finder.ends(x), Long.bitCount(reached));
        }
        for (int y = 0; y < 64; y++) {
            Due.due("reaching(" + y + ") of " + path, finder.reaching(y), reaching[y]);
        }
        Due.due("pairs() of " + path, finder.pairs(), pairs);
    }
}
