/** Promises 8 to 13: times, ends, reached, all, reaching, pairs. */
public final class FoundTest {
    private static final long MOST = 1_000_000_000_000_000L;
    private static final int[] NO_POINTS = {-1, 64, Integer.MIN_VALUE, Integer.MAX_VALUE};

    public static void main(String[] args) {
        oneEdge();
        backwards();
        oneThenOther();
        oneOrOther();
        maybe();
        anyOften();
        onceAtLeast();
        otherLabels();
        timesMultiply();
        thousandBillions();
        changesAreSeen();
        wrongInputs();
        noPath();
        Due.end();
    }

    private static void oneEdge() {
        PathFinder finder = chainOf(0, 62, 63);
        finder.edge(0, 1, 5);
        Due.path(finder, 0, 0);
        Due.due("edge: times(0, 62)", finder.times(0, 62), 1);
        Due.due("edge: times(62, 0)", finder.times(62, 0), 0);
        Due.due("edge: times(0, 5) of another label", finder.times(0, 5), 0);
        Due.due("edge: times(0, 0)", finder.times(0, 0), 0);
        Due.due("edge: ends(0)", finder.ends(0), 1);
        Due.due("edge: ends(63)", finder.ends(63), 0);
        Due.due("edge: reached(62)", finder.reached(62), 1L << 63);
        Due.due("edge: all(62)", finder.all(62), 1);
        Due.due("edge: all(63)", finder.all(63), 0);
        Due.due("edge: reaching(63)", finder.reaching(63), 1L << 62);
        Due.due("edge: reaching(0)", finder.reaching(0), 0);
        Due.due("edge: pairs()", finder.pairs(), 2);
    }

    private static void backwards() {
        PathFinder finder = chainOf(1, 2, 3);
        finder.edge(4, 1, 2);
        Due.path(finder, 1, 0, 0);
        Due.due("back: times(2, 1)", finder.times(2, 1), 1);
        Due.due("back: times(1, 2)", finder.times(1, 2), 0);
        Due.due("back: reached(3)", finder.reached(3), 1L << 2);
        Due.due("back: reaching(1)", finder.reaching(1), 1L << 2);
        Due.path(finder, 1, 2, 0, 0, 0, 0);
        Due.due("back of two: times(3, 1)", finder.times(3, 1), 1);
        Due.due("back of two: pairs()", finder.pairs(), 1);
        Due.path(finder, 1, 1, 0, 0);
        Due.due("back twice: times(1, 2)", finder.times(1, 2), 1);
        Due.path(finder, 1, 7, 0);
        Due.due("back of all labels: reached(2)", finder.reached(2), 1L << 1 | 1L << 4);
        Due.due("back of all labels: all(2)", finder.all(2), 2);
        Due.path(finder, 1, 2, 0, 1, 0, 0);
        Due.due("back, order turns: times(3, 4)", finder.times(3, 4), 1);
        Due.due("back, order turns: times(3, 1)", finder.times(3, 1), 0);
        Due.path(finder, 1, 6, 0, 0);
        Due.due("back of often: times(3, 1)", finder.times(3, 1), 1);
        Due.due("back of often: times(1, 3)", finder.times(1, 3), 0);
        Due.due("back of often: all(3)", finder.all(3), 2);
    }

    private static void oneThenOther() {
        PathFinder finder = new PathFinder();
        for (int z = 10; z < 15; z++) {
            finder.edge(0, 0, z);
            finder.edge(z, 1, 63);
        }
        finder.edge(0, 0, 20);
        finder.edge(21, 1, 63);
        Due.path(finder, 2, 0, 0, 0, 1);
        Due.due("then: times(0, 63)", finder.times(0, 63), 5);
        Due.due("then: all(0)", finder.all(0), 5);
        Due.due("then: ends(0)", finder.ends(0), 1);
        Due.due("then: pairs()", finder.pairs(), 1);
        Due.path(finder, 2, 0, 1, 0, 0);
        Due.due("then, the other order: pairs()", finder.pairs(), 0);
        Due.path(finder, 2, 0, 0, 1, 0, 0);
        Due.due("there and back: times(0, 0)", finder.times(0, 0), 6);
        Due.due("there and back: pairs()", finder.pairs(), 1);
    }

    private static void oneOrOther() {
        PathFinder finder = chainOf(0, 1, 2);
        finder.edge(0, 1, 1);
        finder.edge(0, 1, 9);
        Due.path(finder, 3, 0, 0, 0, 1);
        Due.due("or: times(0, 1)", finder.times(0, 1), 2);
        Due.due("or: times(0, 9)", finder.times(0, 9), 1);
        Due.due("or: times(1, 2)", finder.times(1, 2), 1);
        Due.due("or: ends(0)", finder.ends(0), 2);
        Due.due("or: all(0)", finder.all(0), 3);
        Due.due("or: pairs()", finder.pairs(), 3);
        Due.path(finder, 3, 0, 0, 0, 0);
        Due.due("or itself: times(0, 1)", finder.times(0, 1), 2);
    }

    private static void maybe() {
        PathFinder finder = chainOf(0, 1, 2);
        finder.edge(0, 1, 1);
        finder.edge(5, 0, 5);
        Due.path(finder, 4, 0, 0);
        Due.due("maybe: times(0, 0)", finder.times(0, 0), 1);
        Due.due("maybe: times(0, 1)", finder.times(0, 1), 1);
        Due.due("maybe: times(0, 2)", finder.times(0, 2), 0);
        Due.due("maybe: times(5, 5)", finder.times(5, 5), 1);
        Due.due("maybe: times(63, 63)", finder.times(63, 63), 1);
        Due.due("maybe: pairs()", finder.pairs(), 66);
        Due.path(finder, 4, 7, 0);
        Due.due("maybe of two edges: times(0, 1)", finder.times(0, 1), 1);
        Due.due("maybe of two edges: all(0)", finder.all(0), 2);
    }

    private static void anyOften() {
        PathFinder finder = chainOf(0, 40, 20, 60, 3);
        Due.path(finder, 5, 0, 0);
        Due.due("any: reached(0)", finder.reached(0), 1L | 1L << 40 | 1L << 20 | 1L << 60 | 1L << 3);
        Due.due("any: reached(63)", finder.reached(63), 1L << 63);
        Due.due("any: reaching(3)", finder.reaching(3), 1L | 1L << 40 | 1L << 20 | 1L << 60 | 1L << 3);
        Due.due("any: times(40, 3)", finder.times(40, 3), 1);
        Due.due("any: times(3, 40)", finder.times(3, 40), 0);
        Due.due("any: pairs()", finder.pairs(), 64 + 10);
        Due.path(finder, 2, 5, 0, 0, 5, 0, 0);
        Due.due("any twice: times(0, 3)", finder.times(0, 3), 5);
        Due.due("any twice: all(0)", finder.all(0), 15);
        Due.due("any twice: ends(0)", finder.ends(0), 5);
        finder.edge(3, 0, 0);
        Due.path(finder, 5, 0, 0);
        Due.due("any in a ring: pairs()", finder.pairs(), 59 + 25);
        ringOfAll();
    }

    private static void ringOfAll() {
        PathFinder finder = new PathFinder();
        for (int x = 0; x < 64; x++) {
            finder.edge(x, 7, (x + 27) % 64);
        }
        Due.path(finder, 6, 0, 7);
        Due.due("ring of all: pairs()", finder.pairs(), 4096);
        Due.due("ring of all: ends(63)", finder.ends(63), 64);
        Due.due("ring of all: reached(0)", finder.reached(0), -1L);
        Due.due("ring of all: reaching(0)", finder.reaching(0), -1L);
        Due.due("ring of all: all(5)", finder.all(5), 64);
    }

    private static void onceAtLeast() {
        PathFinder finder = chainOf(0, 1, 2);
        finder.edge(9, 0, 9);
        Due.path(finder, 6, 0, 0);
        Due.due("some: times(0, 0)", finder.times(0, 0), 0);
        Due.due("some: times(0, 2)", finder.times(0, 2), 1);
        Due.due("some: times(9, 9)", finder.times(9, 9), 1);
        Due.due("some: pairs()", finder.pairs(), 4);
        finder.edge(2, 0, 0);
        Due.due("some in a ring: times(0, 0)", finder.times(0, 0), 1);
        Due.due("some in a ring: pairs()", finder.pairs(), 10);
        Due.path(finder, 6, 4, 0, 1);
        Due.due("some of maybe: pairs()", finder.pairs(), 64);
    }

    private static void otherLabels() {
        PathFinder finder = new PathFinder();
        for (int label = 0; label < 8; label++) {
            finder.edge(0, label, 1);
            finder.edge(0, label, 10 + label);
        }
        Due.path(finder, 7, 0);
        Due.due("no label told: times(0, 1)", finder.times(0, 1), 8);
        Due.due("no label told: all(0)", finder.all(0), 16);
        Due.due("no label told: ends(0)", finder.ends(0), 9);
        Due.path(finder, 7, 255);
        Due.due("all labels told: pairs()", finder.pairs(), 0);
        Due.due("all labels told: all(0)", finder.all(0), 0);
        for (int label = 0; label < 8; label++) {
            Due.path(finder, 7, 1 << label);
            Due.due("label " + label + " told: times(0, 1)", finder.times(0, 1), 7);
            Due.due("label " + label + " told: times(0, its own)", finder.times(0, 10 + label), 0);
            Due.path(finder, 7, 255 - (1 << label));
            Due.due("all but " + label + " told: reached(0)", finder.reached(0), 2L | 1L << (10 + label));
            Due.path(finder, 0, label);
            Due.due("label " + label + ": reached(0)", finder.reached(0), 2L | 1L << (10 + label));
        }
    }

    /** Eight edges each way between two points: n steps are found 8^n times. */
    private static PathFinder eightfold() {
        PathFinder finder = new PathFinder();
        for (int label = 0; label < 8; label++) {
            finder.edge(0, label, 1);
            finder.edge(1, label, 0);
        }
        return finder;
    }

    private static int steps(int[] words, int at, int steps) {
        if (steps == 1) {
            words[at] = 7;
            return at + 2;
        }
        words[at] = 2;
        int behind = steps(words, at + 1, steps / 2);
        return steps(words, behind, steps - steps / 2);
    }

    private static int[] steps(int steps) {
        int[] words = new int[3 * steps - 1];
        steps(words, 0, steps);
        return words;
    }

    private static void timesMultiply() {
        long want = 1;
        for (int n = 1; n <= 16; n++) {
            PathFinder finder = eightfold();
            want *= 8;
            Due.path(finder, steps(n));
            Due.due(n + " steps: times(0, " + n % 2 + ")", finder.times(0, n % 2), want);
            Due.due(n + " steps: all(0)", finder.all(0), want);
            Due.due(n + " steps: times(0, other)", finder.times(0, 1 - n % 2), 0);
            Due.due(n + " steps: pairs()", finder.pairs(), 2);
        }
    }

    private static void thousandBillions() {
        PathFinder finder = eightfold();
        for (int n = 17; n <= 20; n++) {
            Due.path(finder, steps(n));
            Due.due(n + " steps: times", finder.times(1, 1 - n % 2), MOST);
            Due.due(n + " steps: all(1)", finder.all(1), MOST);
            Due.due(n + " steps: times of none", finder.times(1, n % 2), 0);
            Due.due(n + " steps: ends(1)", finder.ends(1), 1);
        }
        finder.edge(1, 0, 2);
        Due.path(finder, steps(17));
        Due.due("above in one, below in other: times(1, 2)", finder.times(1, 2), 281_474_976_710_656L);
        Due.due("above in one, below in other: all(1)", finder.all(1), MOST);
        exactlyTheMost();
    }

    /** Ten ways a step, five to each of two points: after fifteen steps they are 10^15 together. */
    private static void exactlyTheMost() {
        PathFinder finder = new PathFinder();
        for (int x = 0; x < 2; x++) {
            for (int label = 0; label < 5; label++) {
                finder.edge(x, label, 0);
                finder.edge(x, label, 1);
            }
        }
        Due.path(finder, steps(15));
        Due.due("half of the most: times(0, 0)", finder.times(0, 0), MOST / 2);
        Due.due("half of the most: times(1, 0)", finder.times(1, 0), MOST / 2);
        Due.due("just the most: all(0)", finder.all(0), MOST);
        finder.edge(0, 5, 2);
        Due.due("one way more: times(0, 2)", finder.times(0, 2), MOST / 20);
        Due.due("one way more: times(0, 0)", finder.times(0, 0), MOST / 2);
        Due.due("one way more: all(0)", finder.all(0), MOST);
        finder.drop(0, 4, 0);
        Due.holds("one way less: all(0) is below the most", finder.all(0) < MOST);
    }

    private static void changesAreSeen() {
        PathFinder finder = chainOf(0, 1, 2);
        Due.path(finder, 6, 0, 0);
        Due.due("before: times(0, 2)", finder.times(0, 2), 1);
        Due.due("before: reached(0)", finder.reached(0), 6);
        finder.drop(1, 0, 2);
        Due.due("dropped: times(0, 2)", finder.times(0, 2), 0);
        Due.due("dropped: reached(0)", finder.reached(0), 2);
        Due.due("dropped: all(0)", finder.all(0), 1);
        finder.edge(1, 0, 3);
        Due.due("new edge: all(0)", finder.all(0), 2);
        Due.due("new edge: pairs()", finder.pairs(), 3);
        finder.word(0);
        Due.due("a word too many: times(0, 1)", finder.times(0, 1), PathFinder.NO);
        Due.due("a word too many: reached(0)", finder.reached(0), 0);
        Due.path(finder, 5, 0, 0);
        Due.due("new path: all(0)", finder.all(0), 3);
        Due.due("new path: times(7, 7)", finder.times(7, 7), 1);
    }

    private static void wrongInputs() {
        PathFinder finder = chainOf(0, 1);
        Due.path(finder, 5, 0, 0);
        for (int x : NO_POINTS) {
            Due.due("times(" + x + ", 0)", finder.times(x, 0), PathFinder.BAD);
            Due.due("times(0, " + x + ")", finder.times(0, x), PathFinder.BAD);
            Due.due("times(both)", finder.times(x, x), PathFinder.BAD);
            Due.due("ends(" + x + ")", finder.ends(x), PathFinder.BAD);
            Due.due("reached(" + x + ")", finder.reached(x), PathFinder.BAD);
            Due.due("all(" + x + ")", finder.all(x), PathFinder.BAD);
            Due.due("reaching(" + x + ")", finder.reaching(x), 0);
        }
    }

    private static void noPath() {
        PathFinder finder = chainOf(0, 1);
        for (int[] words : new int[][] {{}, {0}, {0, 8}, {0, 0, 0}, {5, 5}}) {
            Due.path(finder, words);
            Due.due("no path: times(0, 1)", finder.times(0, 1), PathFinder.NO);
            Due.due("no path: ends(0)", finder.ends(0), PathFinder.NO);
            Due.due("no path: reached(0)", finder.reached(0), 0);
            Due.due("no path: all(0)", finder.all(0), PathFinder.NO);
            Due.due("no path: reaching(1)", finder.reaching(1), 0);
            Due.due("no path: pairs()", finder.pairs(), PathFinder.NO);
            for (int x : NO_POINTS) {
                Due.due("no path: times(" + x + ", 0)", finder.times(x, 0), PathFinder.BAD);
                Due.due("no path: times(0, " + x + ")", finder.times(0, x), PathFinder.BAD);
                Due.due("no path: ends(" + x + ")", finder.ends(x), PathFinder.BAD);
                Due.due("no path: reached(" + x + ")", finder.reached(x), 0);
                Due.due("no path: all(" + x + ")", finder.all(x), PathFinder.BAD);
                Due.due("no path: reaching(" + x + ")", finder.reaching(x), 0);
            }
        }
    }

    private static PathFinder chainOf(int... points) {
        PathFinder finder = new PathFinder();
        for (int n = 1; n < points.length; n++) {
            finder.edge(points[n - 1], 0, points[n]);
        }
        return finder;
    }
}
