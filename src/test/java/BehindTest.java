import java.util.Random;

/**
 * Runs of 512 calls on one object go on rightly behind each boundary case: the case stands at the
 * run's begin, in its middle, at its end, or comes again and again between drawn calls. Each answer
 * is held against the Model's.
 */
public final class BehindTest {
    private static final int[] POINTS = {0, 1, 2, 31, 32, 62, 63};
    private static final int[][] PATHS = {
        {0, 0}, {7, 0}, {1, 0, 7}, {2, 0, 0, 7, 1}, {3, 0, 0, 0, 7}, {4, 7, 3}, {5, 0, 0}, {6, 7, 0},
        {2, 5, 0, 0, 1, 6, 7, 2}, {1, 2, 7, 0, 3, 0, 0, 6, 0, 7},
    };

    private interface Case {
        void on(Run run);
    }

    private record Named(String where, String sentence, Case calls) {
    }

    private static final Named[] CASES = {
        new Named("Terms", "POINTS are 0 .. 63", run -> {
            run.edge(0, 7, 63);
            run.edge(63, 7, 0);
            run.path(2, 0, 7, 0, 7);
            Due.due("times", run.times(63, 63) > 0 ? 1 : 0, 1);
            Due.due("times", run.times(64, 63), PathFinder.BAD);
            Due.due("times", run.times(0, -1), PathFinder.BAD);
        }),
        new Named("Terms", "LABELS 0 .. 7", run -> {
            for (int label : Bounds.LAST_LABELS) {
                run.edge(31, label, 32);
                run.path(0, label);
                Due.due("times", run.times(31, 32), 1);
            }
            Due.due("edge", run.edge(31, 8, 32), PathFinder.BAD);
            Due.due("drop", run.drop(31, -1, 32), PathFinder.BAD);
        }),
        new Named("Terms", "none is there twice", run -> {
            run.edge(63, 0, 63);
            Due.due("edge again", run.edge(63, 0, 63), 0);
            Due.due("drop", run.drop(63, 0, 63), 1);
            Due.due("drop again", run.drop(63, 0, 63), 0);
        }),
        new Named("Terms", "m (0 .. 255)", run -> {
            run.path(7, 0);
            run.pairs();
            run.path(7, 255);
            Due.due("pairs", run.pairs(), 0);
            Due.due("all", run.all(0), 0);
        }),
        new Named("Terms", "x is y", run -> {
            run.path(4, 7, 255);
            Due.due("pairs", run.pairs(), 64);
            run.path(5, 7, 255);
            Due.due("pairs", run.pairs(), 64);
            Due.due("all", run.all(63), 1);
        }),
        new Named("Terms", "two points at least (they may be the same)", run -> {
            run.path(6, 7, 255);
            Due.due("times", run.times(63, 63), 0);
            run.edge(63, 7, 63);
            run.path(6, 0, 7);
            Due.due("times", run.times(63, 63), 1);
        }),
        new Named("Promise 4", "How many edges there are.", run -> {
            int count = run.edges();
            count += run.edge(62, 3, 62);
            Due.due("edges", run.edges(), count);
            run.drop(62, 3, 62);
            Due.due("edges", run.edges(), count - 1);
        }),
        new Named("Promise 2", "0 when it is there", run -> {
            run.edge(0, 0, 63);
            Due.due("edge again", run.edge(0, 0, 63), 0);
        }),
        new Named("Promise 2", "BAD", run -> {
            for (int n = 0; n < 4; n++) {
                Due.due("edge", run.edge(Bounds.NO_POINTS[n], 0, 63), PathFinder.BAD);
                Due.due("edge", run.edge(0, Bounds.NO_LABELS[n], 63), PathFinder.BAD);
                Due.due("edge", run.edge(0, 0, Bounds.NO_POINTS[n]), PathFinder.BAD);
            }
        }),
        new Named("Promise 3", "0 when it is not there", run -> {
            run.drop(63, 7, 0);
            Due.due("drop again", run.drop(63, 7, 0), 0);
        }),
        new Named("Promise 3", "BAD", run -> {
            for (int n = 0; n < 4; n++) {
                Due.due("drop", run.drop(Bounds.NO_POINTS[n], 0, 63), PathFinder.BAD);
                Due.due("drop", run.drop(0, Bounds.NO_LABELS[n], 63), PathFinder.BAD);
                Due.due("drop", run.drop(0, 0, Bounds.NO_POINTS[n]), PathFinder.BAD);
            }
        }),
        new Named("Promise 5", "FULL", run -> {
            run.path(Words.longest());
            Due.due("a 61st word", run.word(0), PathFinder.FULL);
            Due.due("look", run.look(), 0);
        }),
        new Named("Promise 5", "FULL", run -> {
            run.path(Words.join(Words.just(59), Integer.MIN_VALUE));
            Due.due("a 61st word", run.word(Integer.MAX_VALUE), PathFinder.FULL);
            Due.due("look", run.look(), -159);
        }),
        new Named("Promise 6", "The path has no words", run -> {
            run.clear();
            Due.due("clear again", run.clear(), 0);
            Due.due("look", run.look(), -100);
        }),
        new Named("Promise 6", "how many it had", run -> {
            run.path(new int[60]);
            Due.due("clear", run.clear(), 60);
            Due.due("clear again", run.clear(), 0);
        }),
        new Named("Promise 7", "no such word", run -> {
            run.path(2, 0, 0, 8);
            Due.due("look", run.look(), -103);
        }),
        new Named("Promise 7", "no such word or label", run -> {
            run.path(0, 8);
            Due.due("look", run.look(), -101);
        }),
        new Named("Promise 7", "no such word or label", run -> {
            run.path(7, 256);
            Due.due("look", run.look(), -101);
        }),
        new Named("Promise 7", "a part too many", run -> {
            run.path(Words.withParts(41));
            Due.due("look", run.look(), -149);
        }),
        new Named("Terms", "at most 40", run -> {
            run.path(Words.withParts(40));
            Due.due("look", run.look(), 0);
            run.pairs();
            run.all(63);
        }),
        new Named("Promise 7", "too deep", run -> {
            run.path(Words.chain(5, 12, Words.edge(0)));
            Due.due("look", run.look(), -112);
        }),
        new Named("Terms", "at most 12 deep", run -> {
            run.path(Words.toTheRight(2, 11, Words.not(0)));
            Due.due("look", run.look(), 0);
            run.pairs();
            run.all(0);
        }),
        new Named("Promise 7", "a word too many", run -> {
            run.path(0, 0, 0);
            Due.due("look", run.look(), -102);
        }),
        new Named("Promise 7", "or of its end, when some lack", run -> {
            run.path(2, 0, 0);
            Due.due("look", run.look(), -103);
        }),
        new Named("Promise 8", "BAD when one is no point", run -> {
            for (int n = 0; n < 4; n++) {
                Due.due("times", run.times(Bounds.NO_POINTS[n], 0), PathFinder.BAD);
                Due.due("times", run.times(63, Bounds.NO_POINTS[n]), PathFinder.BAD);
            }
        }),
        new Named("Promise 8", "NO when look() is not 0", run -> {
            run.path(5, 0);
            Due.due("times", run.times(0, 0), PathFinder.NO);
            run.word(7);
            run.times(0, 0);
        }),
        new Named("Promise 9", "BAD, NO.", run -> {
            run.path(2, 0, 0);
            Due.due("ends", run.ends(0), PathFinder.NO);
            Due.due("ends", run.ends(64), PathFinder.BAD);
            run.words(0, 0);
            Due.due("ends", run.ends(-1), PathFinder.BAD);
        }),
        new Named("Promise 10", "0 where ends() is NO", run -> {
            run.path(2, 0, 0);
            Due.due("reached", run.reached(0), 0);
            Due.due("reached", run.reached(64), 0);
            run.words(0, 0);
            Due.due("reached", run.reached(64), PathFinder.BAD);
        }),
        new Named("Promise 11", "BAD, NO.", run -> {
            run.path(2, 0, 0);
            Due.due("all", run.all(0), PathFinder.NO);
            Due.due("all", run.all(64), PathFinder.BAD);
            run.words(0, 0);
            Due.due("all", run.all(-1), PathFinder.BAD);
        }),
        new Named("Promise 12", "0 likewise", run -> {
            run.path(2, 0, 0);
            Due.due("reaching", run.reaching(0), 0);
            Due.due("reaching", run.reaching(64), 0);
            run.words(0, 0);
            Due.due("reaching", run.reaching(-1), 0);
        }),
        new Named("Promise 13", "How many pairs of points it is found for", run -> {
            for (int x = 0; x < 64; x++) {
                run.edge(x, 5, (x + 1) % 64);
            }
            run.path(6, 0, 5);
            Due.due("pairs", run.pairs(), 4096);
            Due.due("ends", run.ends(63), 64);
            Due.due("reached", run.reached(0), Bounds.ALL_POINTS);
            Due.due("reaching", run.reaching(63), Bounds.ALL_POINTS);
            run.drop(31, 5, 32);
            run.drop(63, 5, 0);
        }),
        new Named("Promise 13", "NO.", run -> {
            run.path(8);
            Due.due("pairs", run.pairs(), PathFinder.NO);
        }),
        new Named("Terms", "What would be above 10^15 is 10^15", run -> {
            for (int label = 0; label < 8; label++) {
                run.edge(63, label, 63);
            }
            run.path(Words.row(2, 17, Words.not(0)));
            Due.due("times", run.times(63, 63), Bounds.MOST_TIMES);
            Due.due("all", run.all(63), Bounds.MOST_TIMES);
            for (int label = 0; label < 7; label++) {
                run.drop(63, label, 63);
            }
            run.times(63, 63);
        }),
    };

    private static final int MOST_CALLS_OF_A_CASE = 80;

    public static void main(String[] args) {
        for (int n = 0; n < CASES.length; n++) {
            Named named = CASES[n];
            Due.sentence(named.where(), named.sentence());
            atTheBegin(named.calls(), new Random(4 * n));
            inTheMiddle(named.calls(), new Random(4 * n + 1));
            atTheEnd(named.calls(), new Random(4 * n + 2));
            againAndAgain(named.calls(), new Random(4 * n + 3));
        }
        Due.sentence("What it is", "An object is used for at most 512 calls after it has been made");
        for (int seed = 0; seed < 40; seed++) {
            oneBehindTheOther(new Random(seed));
        }
        Due.end();
    }

    private static void atTheBegin(Case calls, Random random) {
        Run run = new Run();
        calls.on(run);
        drawn(run, random, 0);
        usedUp(run);
    }

    private static void inTheMiddle(Case calls, Random random) {
        Run run = new Run();
        drawn(run, random, Run.MOST_CALLS / 2);
        calls.on(run);
        drawn(run, random, 0);
        usedUp(run);
    }

    private static void atTheEnd(Case calls, Random random) {
        Run run = new Run();
        drawn(run, random, MOST_CALLS_OF_A_CASE);
        calls.on(run);
        drawn(run, random, 0);
        usedUp(run);
    }

    private static void againAndAgain(Case calls, Random random) {
        Run run = new Run();
        while (run.callsLeft() > MOST_CALLS_OF_A_CASE) {
            calls.on(run);
            drawn(run, random, Math.max(0, run.callsLeft() - 20));
        }
        drawn(run, random, 0);
        usedUp(run);
    }

    private static void oneBehindTheOther(Random random) {
        Run run = new Run();
        while (run.callsLeft() > MOST_CALLS_OF_A_CASE) {
            CASES[random.nextInt(CASES.length)].calls().on(run);
            drawn(run, random, Math.max(0, run.callsLeft() - random.nextInt(12)));
        }
        drawn(run, random, 0);
        usedUp(run);
    }

    private static void usedUp(Run run) {
        Due.due("calls left", run.callsLeft(), 0);
    }

    /** Drawn calls, until so many calls are left. */
    private static void drawn(Run run, Random random, int left) {
        while (run.callsLeft() > left) {
            int[] path = PATHS[random.nextInt(PATHS.length)];
            if (random.nextInt(12) == 0 && run.callsLeft() - left > path.length) {
                run.path(path);
            } else {
                drawnCall(run, random);
            }
        }
    }

    private static void drawnCall(Run run, Random random) {
        int x = POINTS[random.nextInt(POINTS.length)];
        int y = POINTS[random.nextInt(POINTS.length)];
        int label = new int[] {0, 1, 6, 7}[random.nextInt(4)];
        switch (random.nextInt(14)) {
            case 0: case 1: case 2:
                run.edge(x, label, y);
                break;
            case 3:
                run.drop(x, label, y);
                break;
            case 4:
                run.edges();
                break;
            case 5:
                run.look();
                break;
            case 6:
                run.ends(x);
                break;
            case 7:
                run.reached(x);
                break;
            case 8:
                run.all(x);
                break;
            case 9:
                run.reaching(y);
                break;
            case 10:
                run.pairs();
                break;
            case 11:
                if (random.nextInt(4) == 0) {
                    run.word(random.nextInt(8));
                }
                break;
            default:
                run.times(x, y);
                break;
        }
    }
}
