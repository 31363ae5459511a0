/** The boundary cases of promises 8 to 13 (times .. pairs), a test for each sentence. */
public final class FoundBoundsTest {
    private static final int[] SOME_POINTS = {0, 1, 31, 32, 62, 63};

    /** A path for each reason for which look() is not 0. */
    private static final int[][] NOT_JUST = {
        Words.NONE,
        {0},
        {0, 8},
        {0, -1},
        {7, 256},
        {8},
        {-1},
        {Integer.MIN_VALUE},
        {Integer.MAX_VALUE, 0},
        {2, 0, 0},
        {0, 0, 0},
        Words.join(Words.just(59), 0),
        Words.first(Words.longest(), 59),
        Words.withParts(41),
        Words.chain(5, 12, Words.edge(0)),
        Words.first(Words.row(2, 21, Words.edge(0)), 60),
    };

    public static void main(String[] args) {
        howManyTimes();
        timesIsBad();
        timesIsNo();
        howManyEnds();
        endsIsBadOrNo();
        whichPoints();
        reachedIsBad();
        reachedIsNone();
        howOftenTogether();
        togetherAtMost();
        allIsBadOrNo();
        fromWhich();
        reachingIsNone();
        howManyPairs();
        pairsIsNo();
        Due.end();
    }

    /** Each label between two points, edges over the outermost points, and a point with itself. */
    private static Run someEdges() {
        Run run = new Run();
        for (int label = 0; label < 8; label++) {
            run.edge(0, label, 63);
        }
        run.edge(63, 0, 0);
        run.edge(63, 7, 63);
        run.edge(31, 3, 32);
        return run;
    }

    /** A ring of all points. */
    private static Run ring() {
        Run run = new Run();
        for (int x = 0; x < 64; x++) {
            run.edge(x, 0, (x + 1) % 64);
        }
        return run;
    }

    private static void howManyTimes() {
        Due.sentence("Promise 8", "How many times it is found from x to y");
        Run run = someEdges();
        run.path(7, 0);
        Due.due("times(0, 63)", run.times(0, 63), 8);
        Due.due("times(63, 0)", run.times(63, 0), 1);
        Due.due("times(63, 63)", run.times(63, 63), 1);
        Due.due("times(0, 0)", run.times(0, 0), 0);
        Due.due("times(62, 62)", run.times(62, 62), 0);
        run.path(7, 255);
        Due.due("times(0, 63) of no label", run.times(0, 63), 0);
        run.path(Words.row(2, 2, Words.not(0)));
        Due.due("times(0, 0) of two steps", run.times(0, 0), 8);
        Due.due("times(0, 63) of two steps", run.times(0, 63), 8);
        Due.due("times(63, 63) of two steps", run.times(63, 63), 9);
    }

    private static void timesIsBad() {
        Due.sentence("Promise 8", "BAD when one is no point");
        Run run = someEdges();
        run.path(5, 7, 0);
        for (int x : Bounds.NO_POINTS) {
            for (int y : Bounds.LAST_POINTS) {
                Due.due("times(" + x + ", " + y + ")", run.times(x, y), PathFinder.BAD);
                Due.due("times(" + y + ", " + x + ")", run.times(y, x), PathFinder.BAD);
                Due.due("times(" + y + ", " + y + ") behind BAD", run.times(y, y), 1);
            }
            Due.due("times(" + x + ", " + x + ")", run.times(x, x), PathFinder.BAD);
            Due.due("times(0, 32) behind BAD", run.times(0, 32), 0);
        }
        // Where both are wrong, the point and the path, the point is told.
        run.clear();
        for (int x : Bounds.NO_POINTS) {
            Due.due("no path: times(" + x + ", 0)", run.times(x, 0), PathFinder.BAD);
            Due.due("no path: times(0, " + x + ")", run.times(0, x), PathFinder.BAD);
            Due.due("no path: times(" + x + ", " + x + ")", run.times(x, x), PathFinder.BAD);
        }
    }

    private static void timesIsNo() {
        Due.sentence("Promise 8", "NO when look() is not 0");
        for (int[] words : NOT_JUST) {
            Run run = someEdges();
            run.path(words);
            for (int x : Bounds.LAST_POINTS) {
                for (int y : Bounds.LAST_POINTS) {
                    Due.due("times(" + x + ", " + y + ")", run.times(x, y), PathFinder.NO);
                }
            }
            Due.due("times(64, 0)", run.times(64, 0), PathFinder.BAD);
            Due.due("times(0, -1)", run.times(0, -1), PathFinder.BAD);
            run.path(0, 0);
            Due.due("times(0, 63) of a path behind it", run.times(0, 63), 1);
        }
    }

    private static void howManyEnds() {
        Due.sentence("Promise 9", "How many points it reaches from x.");
        Run run = someEdges();
        run.path(7, 0);
        Due.due("ends(0), eight times one point", run.ends(0), 1);
        Due.due("ends(63)", run.ends(63), 2);
        Due.due("ends(1), no point", run.ends(1), 0);
        run.path(4, 7, 0);
        Due.due("ends(1), itself", run.ends(1), 1);
        Due.due("ends(63), itself among them", run.ends(63), 2);
        run = ring();
        run.path(6, 0, 0);
        for (int x : SOME_POINTS) {
            Due.due("ends(" + x + "), all points", run.ends(x), 64);
        }
        run.drop(62, 0, 63);
        Due.due("ends(63), all points but itself", run.ends(63), 63);
        Due.due("ends(0), all points but itself and 63", run.ends(0), 62);
        Due.due("ends(62), no point", run.ends(62), 0);
    }

    private static void endsIsBadOrNo() {
        Due.sentence("Promise 9", "BAD, NO.");
        Run run = ring();
        run.path(5, 0, 0);
        for (int x : Bounds.NO_POINTS) {
            Due.due("ends(" + x + ")", run.ends(x), PathFinder.BAD);
            Due.due("ends(63) behind BAD", run.ends(63), 64);
        }
        for (int[] words : NOT_JUST) {
            run = someEdges();
            run.path(words);
            Due.due("ends(0)", run.ends(0), PathFinder.NO);
            Due.due("ends(63)", run.ends(63), PathFinder.NO);
            for (int x : Bounds.NO_POINTS) {
                Due.due("ends(" + x + "), path and point are wrong", run.ends(x), PathFinder.BAD);
            }
            run.path(7, 0);
            Due.due("ends(63) of a path behind it", run.ends(63), 2);
        }
    }

    private static void whichPoints() {
        Due.sentence("Promise 10", "Which points it reaches from x (bit y).");
        Run run = new Run();
        run.path(0, 7);
        for (int y = 0; y < 64; y++) {
            run.edge(63, 7, y);
            Due.due("reached(63), the points to " + y, run.reached(63), y == 63 ? Bounds.ALL_POINTS : (1L << y + 1) - 1);
        }
        Due.due("reached(0), no point", run.reached(0), 0);
        for (int y = 0; y < 63; y++) {
            run.drop(63, 7, y);
        }
        Due.due("reached(63), the last bit alone", run.reached(63), Long.MIN_VALUE);
        run.path(4, 0, 0);
        for (int x = 0; x < 64; x++) {
            Due.due("reached(" + x + "), itself", run.reached(x), 1L << x);
        }
    }

    private static void reachedIsBad() {
        Due.sentence("Promise 10", "BAD; 0 where ends() is NO.");
        Run run = someEdges();
        run.path(7, 0);
        for (int x : Bounds.NO_POINTS) {
            Due.due("reached(" + x + ")", run.reached(x), PathFinder.BAD);
            Due.due("ends(" + x + ")", run.ends(x), PathFinder.BAD);
            Due.due("reached(63) behind BAD", run.reached(63), 1L | 1L << 63);
        }
    }

    private static void reachedIsNone() {
        Due.sentence("Promise 10", "0 where ends() is NO");
        for (int[] words : NOT_JUST) {
            Run run = someEdges();
            run.path(words);
            for (int x : SOME_POINTS) {
                Due.due("ends(" + x + ")", run.ends(x), PathFinder.NO);
                Due.due("reached(" + x + ")", run.reached(x), 0);
            }
            // The shared tests ask for 0 where both the path and the point are wrong.
            for (int x : Bounds.NO_POINTS) {
                Due.due("reached(" + x + ")", run.reached(x), 0);
            }
            run.path(0, 7);
            Due.due("reached(63) of a path behind it", run.reached(63), 1L << 63);
        }
    }

    private static void howOftenTogether() {
        Due.sentence("Promise 11", "How often it reaches points from x, all together");
        Run run = someEdges();
        run.path(7, 0);
        Due.due("all(0), eight times one point", run.all(0), 8);
        Due.due("all(63), two points", run.all(63), 2);
        Due.due("all(1), no point", run.all(1), 0);
        run.path(4, 7, 0);
        Due.due("all(0), itself and one point", run.all(0), 2);
        Due.due("all(1), itself", run.all(1), 1);
        run = ring();
        run.path(5, 0, 0);
        Due.due("all(0), each point once", run.all(0), 64);
        run.path(2, 5, 0, 0, 6, 0, 0);
        Due.due("all(63), each point over each", run.all(63), 4096);
    }

    /** 8^16 times to each point: four of them are above 10^15 together, three are not. */
    private static void togetherAtMost() {
        Due.sentence("Promise 11", "(with 10^15 as told)");
        Run run = new Run();
        for (int label = 0; label < 8; label++) {
            run.edge(63, label, 63);
            run.edge(63, label, 0);
        }
        run.path(Words.row(2, 16, Words.not(0)));
        long one = 1L << 48;
        Due.due("all(63) over two points", run.all(63), 2 * one);
        for (int y = 1; y <= 3; y++) {
            for (int label = 0; label < 8; label++) {
                run.edge(63, label, y);
            }
            Due.due("times(63, " + y + ")", run.times(63, y), one);
            Due.due("all(63) over " + (y + 2) + " points", run.all(63), Math.min(Bounds.MOST_TIMES, (y + 2) * one));
        }
        Due.due("all(0)", run.all(0), 0);
        run.path(Words.row(2, 17, Words.not(0)));
        Due.due("all(63) of more than the most each", run.all(63), Bounds.MOST_TIMES);
        run.path(Words.row(2, 2, Words.not(0)));
        Due.due("all(63) of less again", run.all(63), 5 * 64);
    }

    private static void allIsBadOrNo() {
        Due.sentence("Promise 11", "BAD, NO.");
        Run run = ring();
        run.path(5, 0, 0);
        for (int x : Bounds.NO_POINTS) {
            Due.due("all(" + x + ")", run.all(x), PathFinder.BAD);
            Due.due("all(63) behind BAD", run.all(63), 64);
        }
        for (int[] words : NOT_JUST) {
            run = someEdges();
            run.path(words);
            Due.due("all(0)", run.all(0), PathFinder.NO);
            Due.due("all(63)", run.all(63), PathFinder.NO);
            for (int x : Bounds.NO_POINTS) {
                Due.due("all(" + x + "), path and point are wrong", run.all(x), PathFinder.BAD);
            }
            run.path(7, 0);
            Due.due("all(0) of a path behind it", run.all(0), 8);
        }
    }

    private static void fromWhich() {
        Due.sentence("Promise 12", "The points from which it reaches y (bit x)");
        Run run = new Run();
        run.path(0, 7);
        for (int x = 0; x < 64; x++) {
            run.edge(x, 7, 0);
            Due.due("reaching(0), the points to " + x, run.reaching(0), x == 63 ? Bounds.ALL_POINTS : (1L << x + 1) - 1);
        }
        Due.due("reaching(63), no point", run.reaching(63), 0);
        for (int x = 0; x < 63; x++) {
            run.drop(x, 7, 0);
        }
        Due.due("reaching(0), the last bit alone", run.reaching(0), Long.MIN_VALUE);
        run.path(4, 0, 0);
        for (int y = 0; y < 64; y++) {
            Due.due("reaching(" + y + "), itself", run.reaching(y), 1L << y);
        }
    }

    private static void reachingIsNone() {
        Due.sentence("Promise 12", "0 likewise");
        for (int[] words : NOT_JUST) {
            Run run = someEdges();
            run.path(words);
            for (int y : SOME_POINTS) {
                Due.due("reaching(" + y + ")", run.reaching(y), 0);
            }
            for (int y : Bounds.NO_POINTS) {
                Due.due("reaching(" + y + "), path and point are wrong", run.reaching(y), 0);
            }
            run.path(7, 0);
            Due.due("reaching(63) of a path behind it", run.reaching(63), 1L | 1L << 63);
        }
        // The document names no BAD here: 0 of no point, whatever the path.
        Run run = ring();
        run.path(5, 0, 0);
        for (int y : Bounds.NO_POINTS) {
            Due.due("reaching(" + y + ")", run.reaching(y), 0);
            Due.due("reaching(63) behind it", run.reaching(63), Bounds.ALL_POINTS);
        }
    }

    private static void howManyPairs() {
        Due.sentence("Promise 13", "How many pairs of points it is found for");
        Run run = someEdges();
        run.path(7, 255);
        Due.due("pairs of none", run.pairs(), 0);
        run.path(0, 3);
        Due.due("pairs of one label", run.pairs(), 2);
        run.path(7, 0);
        Due.due("pairs of all labels, each pair once", run.pairs(), 4);
        run.path(4, 7, 255);
        Due.due("pairs of nothing", run.pairs(), 64);
        run = ring();
        run.path(5, 0, 0);
        Due.due("pairs, all of them", run.pairs(), 4096);
        run.drop(63, 0, 0);
        Due.due("pairs, no longer all", run.pairs(), 64 * 65 / 2);
        run.edge(63, 0, 0);
        run.path(2, 6, 0, 0, 6, 0, 0);
        Due.due("pairs, all of them, each 64 times", run.pairs(), 4096);
    }

    private static void pairsIsNo() {
        Due.sentence("Promise 13", "NO.");
        for (int[] words : NOT_JUST) {
            Run run = someEdges();
            run.path(words);
            Due.due("pairs", run.pairs(), PathFinder.NO);
            Due.due("pairs again", run.pairs(), PathFinder.NO);
            run.path(7, 0);
            Due.due("pairs of a path behind it", run.pairs(), 4);
            run.word(0);
            Due.due("pairs with a word too many", run.pairs(), PathFinder.NO);
        }
    }
}
