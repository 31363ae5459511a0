import java.math.BigInteger;
import java.util.ArrayList;
import java.util.Arrays;
import java.util.List;
import java.util.Random;

/**
 * Promises 8 to 13 on drawn edges and paths, held against the document's words taken literally.
 * An object gets at most 512 calls: 250 for edges, and for each of two paths 61 for its words and
 * some 60 for what is asked of it.
 */
public final class MeaningTest {
    private static final int RUNS = 1000;
    private static final int PATHS = 2;
    private static final int MOST_EDGES = 250;
    private static final int STARTS = 5;
    private static final int ENDS = 6;

    public static void main(String[] args) {
        Random random = new Random(20261115);
        for (int run = 0; run < RUNS; run++) {
            runOnce(random);
        }
        Due.end();
    }

    private static void runOnce(Random random) {
        PathFinder finder = new PathFinder();
        boolean[][][] edges = new boolean[64][8][64];
        int points = 1 + random.nextInt(random.nextBoolean() ? 6 : 64);
        drawEdges(random, points, finder, edges);
        for (int n = 0; n < PATHS; n++) {
            int[] words = drawPath(random);
            Due.path(finder, words);
            int look = finder.look();
            Due.due("look() of " + Arrays.toString(words), look, Meaning.look(words));
            if (look == 0) {
                compare(random, points, finder, Meaning.times(edges, words), Arrays.toString(words));
            }
        }
    }

    private static void drawEdges(Random random, int points, PathFinder finder, boolean[][][] edges) {
        int labels = 1 + random.nextInt(8);
        int many = random.nextInt(MOST_EDGES);
        int count = 0;
        for (int n = 0; n < many; n++) {
            int from = random.nextInt(points);
            int label = random.nextInt(labels);
            int to = random.nextInt(points);
            boolean there = edges[from][label][to];
            if (random.nextInt(5) == 0) {
                Due.due("drop of a drawn edge", finder.drop(from, label, to), there ? 1 : 0);
                edges[from][label][to] = false;
                count -= there ? 1 : 0;
            } else {
                Due.due("edge of a drawn edge", finder.edge(from, label, to), there ? 0 : 1);
                edges[from][label][to] = true;
                count += there ? 0 : 1;
            }
        }
        Due.due("edges() of the drawn ones", finder.edges(), count);
    }

    private static int[] drawPath(Random random) {
        List<Integer> words = new ArrayList<>();
        do {
            words.clear();
            draw(random, words, 1, 1 + random.nextInt(12), random.nextInt(8));
        } while (words.size() > 60);
        int[] row = new int[words.size()];
        for (int n = 0; n < row.length; n++) {
            row[n] = words.get(n);
        }
        return row;
    }

    /** The taste says how often parts of two parts are drawn, so that counts grow large at times. */
    private static void draw(Random random, List<Integer> words, int depth, int deepest, int taste) {
        if (depth >= deepest || random.nextInt(8) == 0) {
            boolean one = random.nextInt(4) != 0;
            words.add(one ? 0 : 7);
            words.add(random.nextInt(one ? 8 : 256) & (random.nextBoolean() ? 1 : 255));
            return;
        }
        int kind = random.nextInt(8) < taste ? 2 + random.nextInt(2) : new int[] {1, 4, 5, 6}[random.nextInt(4)];
        words.add(kind);
        draw(random, words, depth + 1, deepest, taste);
        if (kind == 2 || kind == 3) {
            draw(random, words, depth + 1, deepest, taste);
        }
    }

    private static void compare(Random random, int points, PathFinder finder, BigInteger[][] want, String path) {
        int pairs = 0;
        for (int x = 0; x < 64; x++) {
            pairs += Long.bitCount(reached(want, x));
        }
        Due.due("pairs() of " + path, finder.pairs(), pairs);
        for (int n = 0; n < STARTS; n++) {
            // Points that no edge has are of interest too, but less so.
            int x = random.nextInt(random.nextInt(6) == 0 ? 64 : points);
            compareAt(random, x, finder, want, path);
        }
    }

    private static void compareAt(Random random, int x, PathFinder finder, BigInteger[][] want, String path) {
        BigInteger all = BigInteger.ZERO;
        long reaching = 0;
        for (int y = 0; y < 64; y++) {
            all = all.add(want[x][y]);
            reaching |= want[y][x].signum() != 0 ? 1L << y : 0;
        }
        long reached = reached(want, x);
        Due.due("ends(" + x + ") of " + path, finder.ends(x), Long.bitCount(reached));
        Due.due("reached(" + x + ") of " + path, finder.reached(x), reached);
        Due.due("reaching(" + x + ") of " + path, finder.reaching(x), reaching);
        Due.due("all(" + x + ") of " + path, finder.all(x), Meaning.cut(all));
        for (int n = 0; n < ENDS; n++) {
            int y = random.nextInt(64);
            if (reached != 0 && random.nextInt(4) != 0) {
                // Most points are not reached at all: the next reached one tells more.
                y = (y + Long.numberOfTrailingZeros(Long.rotateRight(reached, y))) % 64;
            }
            Due.due("times(" + x + ", " + y + ") of " + path, finder.times(x, y), Meaning.cut(want[x][y]));
        }
    }

    private static long reached(BigInteger[][] want, int x) {
        long points = 0;
        for (int y = 0; y < 64; y++) {
            points |= want[x][y].signum() != 0 ? 1L << y : 0;
        }
        return points;
    }
}
