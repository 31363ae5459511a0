import java.util.Arrays;

/**
 * The sentences of "Terms" that tell what each word means: a path's times are held against those
 * of its parts, which are asked of objects of their own.
 */
public final class TermsTest {
    /** No edge is at another point, so these are all that ways from and to them can go over. */
    private static final int[] POINTS = {0, 1, 2, 31, 62, 63};
    private static final int MANY = POINTS.length;

    private static final int[][] EDGES = {
        {0, 0, 1}, {0, 1, 1}, {0, 7, 1}, {1, 0, 2}, {1, 3, 2}, {2, 0, 0}, {2, 1, 62}, {62, 0, 63},
        {62, 7, 63}, {63, 1, 62}, {63, 0, 63}, {31, 2, 31}, {31, 0, 0}, {1, 7, 63}, {63, 5, 1},
    };

    /** A part of each kind, and of some two kinds. */
    private static final int[][] PARTS = {
        {0, 0}, {1, 0, 0}, {2, 0, 0, 0, 0}, {3, 0, 0, 0, 1}, {4, 0, 0}, {5, 0, 1}, {6, 0, 0}, {7, 0}, {7, 130},
        {2, 7, 0, 7, 0}, {1, 2, 0, 0, 7, 1}, {3, 6, 0, 0, 1, 7, 0},
    };

    public static void main(String[] args) {
        edgeOfLabel();
        backwards();
        oneThenOther();
        timesMultiplied();
        oneOrOther();
        oneOrNothing();
        anyOften();
        onceAtLeast();
        labelsNotTold();
        fromAndTo();
        readFromTheLeft();
        Due.end();
    }

    private static void edgeOfLabel() {
        Due.sentence("Terms", "0 l: an edge of label l.");
        for (int label = 0; label < 8; label++) {
            long[][] due = new long[MANY][MANY];
            for (int[] edge : EDGES) {
                if (edge[1] == label) {
                    due[placeOf(edge[0])][placeOf(edge[2])] = 1;
                }
            }
            same(due, Words.edge(label));
        }
    }

    private static void backwards() {
        Due.sentence("Terms", "1 p: p backwards.");
        for (int[] p : PARTS) {
            long[][] ofPart = times(p);
            long[][] due = new long[MANY][MANY];
            for (int x = 0; x < MANY; x++) {
                for (int y = 0; y < MANY; y++) {
                    due[x][y] = ofPart[y][x];
                }
            }
            same(due, Words.of(1, p));
            same(ofPart, Words.of(1, Words.of(1, p)));
        }
    }

    private static void oneThenOther() {
        Due.sentence("Terms", "2 p q: p, then q.");
        for (int[] p : PARTS) {
            for (int[] q : PARTS) {
                same(product(times(p), times(q)), Words.of(2, p, q));
            }
        }
    }

    /** Three ways to each of two points, two ways on from the one, five from the other. */
    private static void timesMultiplied() {
        Due.sentence("Terms", "of the times of p from x to z multiplied by those of q from z to y.");
        Run run = new Run();
        for (int label = 0; label < 3; label++) {
            run.edge(0, label, 1);
            run.edge(0, label, 62);
        }
        for (int label = 3; label < 5; label++) {
            run.edge(1, label, 63);
        }
        run.path(2, 7, 0, 7, 0);
        Due.due("over one point", run.times(0, 63), 3 * 2);
        for (int label = 3; label < 8; label++) {
            run.edge(62, label, 63);
        }
        Due.due("over both points", run.times(0, 63), 3 * 2 + 3 * 5);
        Due.due("x to z alone", run.times(0, 1), 0);
        Due.due("z to y alone", run.times(62, 63), 0);
        run.edge(63, 0, 63);
        Due.due("z is y", run.times(62, 63), 5);
        run.edge(0, 7, 63);
        Due.due("over both points, or y itself", run.times(0, 63), 3 * 2 + 3 * 5 + 1);
    }

    private static void oneOrOther() {
        Due.sentence("Terms", "3 p q: p or q.");
        for (int[] p : PARTS) {
            for (int[] q : PARTS) {
                long[][] due = times(p);
                add(due, times(q));
                same(due, Words.of(3, p, q));
            }
        }
    }

    private static void oneOrNothing() {
        Due.sentence("Terms", "4 p: p or nothing.");
        for (int[] p : PARTS) {
            same(once(times(p), true), Words.of(4, p));
        }
    }

    private static void anyOften() {
        Due.sentence("Terms", "5 p: p as often as one likes, or not at all.");
        for (int[] p : PARTS) {
            same(once(often(times(p)), true), Words.of(5, p));
        }
    }

    private static void onceAtLeast() {
        Due.sentence("Terms", "6 p: p as often as one likes, once at least.");
        for (int[] p : PARTS) {
            same(once(often(times(p)), false), Words.of(6, p));
        }
    }

    private static void labelsNotTold() {
        Due.sentence("Terms", "7: the sum for all such labels.");
        for (int m = 0; m < 256; m++) {
            long[][] due = new long[MANY][MANY];
            for (int[] edge : EDGES) {
                if ((m >> edge[1] & 1) == 0) {
                    due[placeOf(edge[0])][placeOf(edge[2])]++;
                }
            }
            same(due, Words.not(m));
        }
    }

    private static void fromAndTo() {
        Due.sentence("Terms", "A path is found FROM x TO y so many TIMES");
        Run run = new Run();
        run.edge(0, 0, 63);
        run.edge(0, 1, 63);
        run.path(7, 0);
        Due.due("from 0 to 63", run.times(0, 63), 2);
        Due.due("from 63 to 0", run.times(63, 0), 0);
        Due.due("from 0 to 0", run.times(0, 0), 0);
        Due.due("from 63 to 63", run.times(63, 63), 0);
    }

    /** A word means the same wherever a part may begin; behind 0 and 7 it is a label or a set of them. */
    private static void readFromTheLeft() {
        Due.sentence("Terms", "read from the left: 0 l");
        Run run = new Run();
        run.edge(0, 2, 1);
        run.edge(1, 5, 63);
        run.words(2);
        Due.due("look of 2", run.look(), -101);
        run.words(0);
        Due.due("look of 2 0", run.look(), -102);
        run.words(2);
        Due.due("look of 2 0 2, the label 2", run.look(), -103);
        run.words(7);
        Due.due("look of 2 0 2 7", run.look(), -104);
        run.words(5);
        Due.due("look of 2 0 2 7 5, the labels 0 and 2", run.look(), 0);
        Due.due("times of 2 0 2 7 5", run.times(0, 63), 1);
        run.path(2, 0, 2, 0, 5);
        Due.due("times of 2 0 2 0 5", run.times(0, 63), 1);
        run.path(2, 0, 2, 7, 32);
        Due.due("times of 2 0 2 7 32, label 5 is told", run.times(0, 63), 0);
    }

    private static int placeOf(int point) {
        return Arrays.binarySearch(POINTS, point);
    }

    /** The times of this path for all pairs of the points, from a new object. */
    private static long[][] times(int... words) {
        PathFinder finder = new PathFinder();
        for (int[] edge : EDGES) {
            finder.edge(edge[0], edge[1], edge[2]);
        }
        for (int word : words) {
            finder.word(word);
        }
        Due.due("look of " + Arrays.toString(words), finder.look(), 0);
        long[][] table = new long[MANY][MANY];
        for (int x = 0; x < MANY; x++) {
            for (int y = 0; y < MANY; y++) {
                table[x][y] = finder.times(POINTS[x], POINTS[y]);
            }
        }
        return table;
    }

    private static void same(long[][] due, int... words) {
        long[][] got = times(words);
        for (int x = 0; x < MANY; x++) {
            for (int y = 0; y < MANY; y++) {
                Due.due("times(" + POINTS[x] + ", " + POINTS[y] + ") of " + Arrays.toString(words), got[x][y], due[x][y]);
            }
        }
    }

    private static long[][] product(long[][] p, long[][] q) {
        long[][] table = new long[MANY][MANY];
        for (int x = 0; x < MANY; x++) {
            for (int y = 0; y < MANY; y++) {
                for (int z = 0; z < MANY; z++) {
                    table[x][y] += p[x][z] * q[z][y];
                }
            }
        }
        return table;
    }

    private static void add(long[][] table, long[][] more) {
        for (int x = 0; x < MANY; x++) {
            for (int y = 0; y < MANY; y++) {
                table[x][y] += more[x][y];
            }
        }
    }

    /** One step of p, or two, .. or as many as there are points: more lead nowhere else. */
    private static long[][] often(long[][] p) {
        long[][] step = once(p, false);
        long[][] all = step;
        for (int n = 1; n < MANY; n++) {
            long[][] more = product(all, step);
            add(more, all);
            all = once(more, false);
        }
        return all;
    }

    private static long[][] once(long[][] table, boolean staying) {
        long[][] ones = new long[MANY][MANY];
        for (int x = 0; x < MANY; x++) {
            for (int y = 0; y < MANY; y++) {
                ones[x][y] = table[x][y] > 0 || (staying && x == y) ? 1 : 0;
            }
        }
        return ones;
    }
}
