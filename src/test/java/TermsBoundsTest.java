/** The boundary cases that the document's section "Terms" names, each sentence with a test of its own. */
public final class TermsBoundsTest {
    private static final long ENDS_OF_POINTS = 1L | 1L << 63;

    public static void main(String[] args) {
        points();
        labels();
        noneTwice();
        comeAndGo();
        mostWords();
        wordsAreInts();
        oneEdge();
        backwards();
        backwardsFromAll();
        oneThenOther();
        overTheLastOfAll();
        oneOrOther();
        oneOrNothing();
        anyOften();
        onceAtLeast();
        labelsNotTold();
        bitForLabel();
        mostParts();
        partsInOneAnother();
        mostDeep();
        otherwiseNone();
        mostTimes();
        mostTimesBehindTheLong();
        mostTimesOnTheWay();
        Due.end();
    }

    private static void points() {
        Due.sentence("Terms", "POINTS are 0 .. 63");
        Run run = new Run();
        run.path(4, 0, 0);
        for (int x : Bounds.LAST_POINTS) {
            int y = 63 - x;
            Due.due("edge at the last points", run.edge(x, 0, y), 1);
            Due.due("times at the last points", run.times(x, y), 1);
            Due.due("ends at the last points", run.ends(x), 2);
            Due.due("reached at the last points", run.reached(x), ENDS_OF_POINTS);
            Due.due("all at the last points", run.all(x), 2);
            Due.due("reaching at the last points", run.reaching(y), ENDS_OF_POINTS);
            Due.due("drop at the last points", run.drop(x, 0, y), 1);
            Due.due("times behind the drop", run.times(x, y), 0);
        }
        for (int x : Bounds.NO_POINTS) {
            Due.due("edge from " + x, run.edge(x, 0, 5), PathFinder.BAD);
            Due.due("edge to " + x, run.edge(5, 0, x), PathFinder.BAD);
            Due.due("drop from " + x, run.drop(x, 0, 5), PathFinder.BAD);
            Due.due("drop to " + x, run.drop(5, 0, x), PathFinder.BAD);
            Due.due("times from " + x, run.times(x, 5), PathFinder.BAD);
            Due.due("times to " + x, run.times(5, x), PathFinder.BAD);
            Due.due("ends from " + x, run.ends(x), PathFinder.BAD);
            Due.due("reached from " + x, run.reached(x), PathFinder.BAD);
            Due.due("all from " + x, run.all(x), PathFinder.BAD);
            Due.due("reaching to " + x, run.reaching(x), 0);
        }
        Due.due("edges behind it all", run.edges(), 0);
        Due.due("pairs behind it all", run.pairs(), 64);
    }

    private static void labels() {
        Due.sentence("Terms", "LABELS 0 .. 7");
        Run run = new Run();
        for (int label : Bounds.LAST_LABELS) {
            Due.due("edge of label " + label, run.edge(1, label, 2), 1);
            run.path(0, label);
            Due.due("times of label " + label, run.times(1, 2), 1);
            run.path(0, 7 - label);
            Due.due("times of label " + (7 - label), run.times(1, 2), 0);
            Due.due("drop of label " + label, run.drop(1, label, 2), 1);
        }
        for (int label : Bounds.NO_LABELS) {
            Due.due("edge of label " + label, run.edge(1, label, 2), PathFinder.BAD);
            Due.due("drop of label " + label, run.drop(1, label, 2), PathFinder.BAD);
            run.path(0, label);
            Due.due("look with label " + label, run.look(), -101);
        }
        Due.due("edges behind it all", run.edges(), 0);
    }

    private static void noneTwice() {
        Due.sentence("Terms", "none is there twice");
        Run run = new Run();
        run.path(7, 0);
        Due.due("edge", run.edge(0, 7, 63), 1);
        Due.due("edge again", run.edge(0, 7, 63), 0);
        Due.due("edge once more", run.edge(0, 7, 63), 0);
        Due.due("edges", run.edges(), 1);
        Due.due("times", run.times(0, 63), 1);
        Due.due("drop of the one", run.drop(0, 7, 63), 1);
        Due.due("edges behind one drop", run.edges(), 0);
        Due.due("times behind one drop", run.times(0, 63), 0);
        Due.due("drop again", run.drop(0, 7, 63), 0);
        Due.due("edges behind two drops", run.edges(), 0);
    }

    private static void comeAndGo() {
        Due.sentence("Terms", "EDGES (from, label, to) come and go");
        Run run = new Run();
        run.path(0, 0);
        for (int n = 0; n < 100; n++) {
            Due.due("edge comes", run.edge(63, 0, 63), 1);
            Due.due("times when it came", run.times(63, 63), 1);
            Due.due("edge goes", run.drop(63, 0, 63), 1);
            Due.due("times when it went", run.times(63, 63), 0);
        }
        Due.due("edges at last", run.edges(), 0);
    }

    private static void mostWords() {
        Due.sentence("Terms", "THE PATH is a row of at most 60 words");
        Run run = new Run();
        run.edge(0, 0, 0);
        run.words(Words.first(Words.longest(), 59));
        Due.due("look of 59 words, one lacks", run.look(), -159);
        Due.due("the 60th word", run.word(0), 60);
        Due.due("look of 60 words", run.look(), 0);
        Due.due("times of 60 words", run.times(0, 0), 1);
        for (int word : new int[] {0, 7, -1, 8, Integer.MIN_VALUE, Integer.MAX_VALUE}) {
            Due.due("a 61st word " + word, run.word(word), PathFinder.FULL);
            Due.due("look behind FULL", run.look(), 0);
            Due.due("times behind FULL", run.times(0, 0), 1);
        }
        Due.due("clear of 60", run.clear(), 60);
        Due.due("look of no words", run.look(), -100);
    }

    private static void wordsAreInts() {
        Due.sentence("Terms", "words, ints, read from the left");
        Run run = new Run();
        run.edge(1, 0, 2);
        run.edge(2, 7, 3);
        for (int word : new int[] {Integer.MIN_VALUE, -1, 0, 7, 8, 255, 256, Integer.MAX_VALUE}) {
            Due.due("word " + word + " is taken", run.word(word), 1);
            Due.due("clear of it", run.clear(), 1);
        }
        run.path(2, 0, 0, 0, 7);
        Due.due("the left one is first: times(1, 3)", run.times(1, 3), 1);
        run.path(2, 0, 7, 0, 0);
        Due.due("the other way round: times(1, 3)", run.times(1, 3), 0);
    }

    private static void oneEdge() {
        Due.sentence("Terms", "0: 1 if there is the edge");
        Run run = new Run();
        for (int label : Bounds.LAST_LABELS) {
            run.edge(0, label, 63);
            run.edge(63, label, 63);
        }
        for (int label = 0; label < 8; label++) {
            int there = label == 0 || label == 7 ? 1 : 0;
            run.path(0, label);
            Due.due("times(0, 63) of label " + label, run.times(0, 63), there);
            Due.due("times(63, 63) of label " + label, run.times(63, 63), there);
            Due.due("times(63, 0) of label " + label, run.times(63, 0), 0);
            Due.due("times(0, 0) of label " + label, run.times(0, 0), 0);
        }
    }

    private static void backwards() {
        Due.sentence("Terms", "1: as p from y to x");
        Run run = new Run();
        run.edge(0, 0, 63);
        run.edge(5, 0, 5);
        run.path(1, 0, 0);
        Due.due("times(63, 0)", run.times(63, 0), 1);
        Due.due("times(0, 63)", run.times(0, 63), 0);
        Due.due("times(5, 5)", run.times(5, 5), 1);
        for (int often = 1; often <= 11; often++) {
            run.path(Words.chain(1, often, Words.edge(0)));
            Due.due(often + " times backwards: times(0, 63)", run.times(0, 63), often % 2 == 0 ? 1 : 0);
            Due.due(often + " times backwards: times(63, 0)", run.times(63, 0), often % 2);
        }
    }

    /** In a ring, "5 0 0" is found once from each of the 64 points to each. */
    private static Run ring() {
        Run run = new Run();
        for (int x = 0; x < 64; x++) {
            run.edge(x, 0, (x + 1) % 64);
        }
        return run;
    }

    private static void backwardsFromAll() {
        Due.sentence("Terms", "1: as p from y to x");
        Run run = ring();
        run.path(1, 5, 0, 0);
        for (int x : Bounds.LAST_POINTS) {
            Due.due("reached, all points", run.reached(x), Bounds.ALL_POINTS);
            Due.due("reaching, all points", run.reaching(x), Bounds.ALL_POINTS);
            Due.due("all, all points", run.all(x), 64);
        }
        Due.due("pairs, all of them", run.pairs(), 4096);
        run.path(1, 2, 5, 0, 0, 5, 0, 0);
        Due.due("times over all points, backwards", run.times(0, 63), 64);
        run.path(2, 5, 0, 0, 1, 5, 0, 0);
        Due.due("times to all points and back", run.times(63, 0), 64);
    }

    private static void overTheLastOfAll() {
        Due.sentence("Terms", "2: the sum, for all points z");
        for (int z : Bounds.LAST_POINTS) {
            Run run = ring();
            run.edge(z, 7, 31);
            run.path(2, 5, 0, 0, 0, 7);
            for (int x : Bounds.LAST_POINTS) {
                Due.due("reached over " + z + " alone", run.reached(x), 1L << 31);
                Due.due("times over " + z + " alone", run.times(x, 31), 1);
            }
            Due.due("pairs over " + z + " alone", run.pairs(), 64);
            run.path(2, 1, 0, 7, 5, 0, 0);
            Due.due("reached behind " + z + " alone", run.reached(31), Bounds.ALL_POINTS);
            Due.due("all behind " + z + " alone", run.all(31), 64);
        }
    }

    private static void oneThenOther() {
        Due.sentence("Terms", "2: the sum, for all points z");
        Run run = new Run();
        run.path(2, 0, 0, 0, 1);
        Due.due("over no point", run.times(5, 5), 0);
        for (int z = 0; z < 64; z++) {
            run.edge(5, 0, z);
            run.edge(z, 1, 5);
            Due.due("over the points up to " + z, run.times(5, 5), z + 1);
        }
        for (int z : Bounds.LAST_POINTS) {
            run.drop(5, 0, z);
        }
        Due.due("without the last points", run.times(5, 5), 62);
        run.path(2, 7, 0, 7, 0);
        Due.due("x, y and z may be the same", run.times(5, 5), 62 - 1 + 4);
    }

    private static void oneOrOther() {
        Due.sentence("Terms", "3: the sum of both");
        Run run = new Run();
        run.path(3, 0, 0, 0, 7);
        Due.due("none", run.times(0, 63), 0);
        run.edge(0, 0, 63);
        Due.due("the first one alone", run.times(0, 63), 1);
        run.edge(0, 7, 63);
        Due.due("both", run.times(0, 63), 2);
        run.drop(0, 0, 63);
        Due.due("the second one alone", run.times(0, 63), 1);
        run.path(Words.row(3, 20, Words.edge(7)));
        Due.due("the same one twenty times", run.times(0, 63), 20);
        Due.due("and reached once", run.ends(0), 1);
    }

    private static void oneOrNothing() {
        Due.sentence("Terms", "4: 1, if x is y or p is found from x to y");
        Run run = new Run();
        run.path(4, 7, 0);
        for (int x : Bounds.LAST_POINTS) {
            Due.due("x is y", run.times(x, x), 1);
            Due.due("neither", run.times(x, 63 - x), 0);
        }
        Due.due("pairs without edges", run.pairs(), 64);
        run.edge(0, 0, 63);
        Due.due("p is found once", run.times(0, 63), 1);
        run.edge(0, 7, 63);
        Due.due("p is found twice", run.times(0, 63), 1);
        run.edge(63, 3, 63);
        Due.due("x is y, and p is found", run.times(63, 63), 1);
        Due.due("pairs with edges", run.pairs(), 65);
        run.edges(0, 63, 1);
        Due.due("p twice is not p", run.times(0, 1), 0);
    }

    private static void anyOften() {
        Due.sentence("Terms", "5: 1, if x is y, or there are points x, .., y such that p is found from each to the next one");
        Run run = new Run();
        run.path(5, 7, 0);
        Due.due("x is y: times(0, 0)", run.times(0, 0), 1);
        Due.due("x is y: times(63, 63)", run.times(63, 63), 1);
        Due.due("pairs without edges", run.pairs(), 64);
        for (int x = 0; x < 63; x++) {
            run.edge(x, x % 8, x + 1);
        }
        Due.due("the longest way up: times(0, 63)", run.times(0, 63), 1);
        Due.due("no way down: times(63, 0)", run.times(63, 0), 0);
        Due.due("pairs of the way up", run.pairs(), 64 * 65 / 2);
        run.edge(63, 0, 0);
        Due.due("pairs of the ring", run.pairs(), 4096);
        Due.due("twice there is still once", run.times(5, 5), 1);
        run.drop(31, 7, 32);
        Due.due("the ring without one: times(0, 63)", run.times(0, 63), 0);
        Due.due("the ring without one: times(32, 31)", run.times(32, 31), 1);
        Due.due("pairs of the ring without one", run.pairs(), 64 * 65 / 2);
    }

    private static void onceAtLeast() {
        Due.sentence("Terms", "6: likewise, two points at least (they may be the same)");
        Run run = new Run();
        run.path(6, 7, 0);
        Due.due("x is y alone: times(0, 0)", run.times(0, 0), 0);
        Due.due("pairs without edges", run.pairs(), 0);
        run.edge(63, 7, 63);
        Due.due("the two are the same: times(63, 63)", run.times(63, 63), 1);
        Due.due("pairs of this one", run.pairs(), 1);
        run.drop(63, 7, 63);
        for (int x = 63; x > 0; x--) {
            run.edge(x, x % 8, x - 1);
        }
        Due.due("the longest way down: times(63, 0)", run.times(63, 0), 1);
        Due.due("x is y on it: times(63, 63)", run.times(63, 63), 0);
        Due.due("pairs of the way down", run.pairs(), 63 * 64 / 2);
        run.edge(0, 0, 63);
        Due.due("x is y in a ring: times(63, 63)", run.times(63, 63), 1);
        Due.due("pairs of the ring", run.pairs(), 4096);
        run.path(6, 4, 0, 0);
        run.drop(0, 0, 63);
        Due.due("nothing is two points that are the same: times(63, 63)", run.times(63, 63), 1);
    }

    private static void labelsNotTold() {
        Due.sentence("Terms", "7 m: an edge whose label is not one of those that m (0 .. 255) tells");
        Run run = new Run();
        for (int label = 0; label < 8; label++) {
            run.edge(0, label, 63);
        }
        run.path(7, 0);
        Due.due("look with 0", run.look(), 0);
        Due.due("times with 0", run.times(0, 63), 8);
        run.path(7, 255);
        Due.due("look with 255", run.look(), 0);
        Due.due("times with 255", run.times(0, 63), 0);
        for (int m : Bounds.NO_MASKS) {
            run.path(7, m);
            Due.due("look with " + m, run.look(), -101);
            Due.due("times with " + m, run.times(0, 63), PathFinder.NO);
        }
        run.path(7, 254);
        Due.due("times with 254", run.times(0, 63), 1);
    }

    private static void bitForLabel() {
        Due.sentence("Terms", "bit l for label l");
        for (int label = 0; label < 8; label++) {
            Run run = new Run();
            run.edge(0, label, 63);
            for (int told = 0; told < 8; told++) {
                run.path(7, 1 << told);
                Due.due("edge " + label + ", told " + told, run.times(0, 63), label == told ? 0 : 1);
                run.path(7, 255 - (1 << told));
                Due.due("edge " + label + ", told all but " + told, run.times(0, 63), label == told ? 1 : 0);
            }
        }
        Due.sentence("Terms", "7: the sum for all such labels");
        Run run = new Run();
        for (int label = 0; label < 8; label++) {
            run.edge(63, label, 0);
        }
        for (int m : new int[] {0, 1, 3, 7, 15, 31, 63, 127, 255, 128, 85, 170}) {
            run.path(7, m);
            Due.due("all edges, told " + m, run.times(63, 0), 8 - Integer.bitCount(m));
            Due.due("all edges together, told " + m, run.all(63), 8 - Integer.bitCount(m));
        }
    }

    private static void mostParts() {
        Due.sentence("Terms", "Its PARTS (also in one another) are at most 40");
        Run run = new Run();
        run.edge(0, 0, 0);
        run.path(Words.withParts(39));
        Due.due("look of 39 parts", run.look(), 0);
        run.path(Words.withParts(40));
        Due.due("look of 40 parts", run.look(), 0);
        Due.due("times of 40 parts", run.times(0, 0), 1);
        run.path(Words.withParts(41));
        Due.due("look of 41 parts", run.look(), -149);
        Due.due("times of 41 parts", run.times(0, 0), PathFinder.NO);
        run.path(Words.withParts(42));
        Due.due("look of 42 parts", run.look(), -149);
        run.path(Words.longest());
        Due.due("look of 40 parts in 60 words", run.look(), 0);
        run.path(Words.just(59));
        Due.due("look of 39 parts in 59 words", run.look(), 0);
    }

    private static void partsInOneAnother() {
        Due.sentence("Terms", "PARTS (also in one another)");
        int[] ten = Words.chain(6, 9, Words.edge(0));
        int[] rest = Words.chain(6, 6, Words.edge(0));
        Run run = new Run();
        run.edges(0, 0, 1);
        run.path(Words.of(3, Words.of(3, ten, ten), Words.of(3, ten, rest)));
        Due.due("look of 3 + 30 + 7 parts", run.look(), 0);
        Due.due("times of 3 + 30 + 7 parts", run.times(0, 1), 4);
        int[] more = Words.chain(6, 7, Words.edge(0));
        run.path(Words.of(3, Words.of(3, ten, ten), Words.of(3, ten, more)));
        Due.due("look of 3 + 30 + 8 parts", run.look(), -100 - (3 + 3 * 11 + 7));
        run.path(Words.of(3, Words.of(3, ten, ten), Words.of(3, rest, ten)));
        Due.due("look of 3 + 20 + 7 + 10 parts", run.look(), 0);
        Due.due("times of 3 + 20 + 7 + 10 parts", run.times(0, 1), 4);
        run.path(Words.of(3, Words.of(3, ten, ten), Words.of(3, more, ten)));
        Due.due("look of 3 + 20 + 8 + 10 parts", run.look(), -100 - (3 + 2 * 11 + 9 + 9));
    }

    private static void mostDeep() {
        Due.sentence("Terms", "and at most 12 deep.");
        Run run = new Run();
        run.edge(0, 0, 0);
        for (int word : new int[] {1, 4, 5, 6}) {
            run.path(Words.chain(word, 11, Words.edge(0)));
            Due.due("look, 12 deep by " + word, run.look(), 0);
            Due.due("times, 12 deep by " + word, run.times(0, 0), 1);
            run.path(Words.chain(word, 12, Words.edge(0)));
            Due.due("look, 13 deep by " + word, run.look(), -112);
            Due.due("times, 13 deep by " + word, run.times(0, 0), PathFinder.NO);
        }
        run = new Run();
        run.edge(0, 0, 0);
        for (int word : new int[] {2, 3}) {
            long due = word == 2 ? 1 : 12;
            run.path(Words.toTheLeft(word, 11, Words.edge(0)));
            Due.due("look, 12 deep to the left by " + word, run.look(), 0);
            Due.due("times, 12 deep to the left by " + word, run.times(0, 0), due);
            run.path(Words.toTheLeft(word, 12, Words.edge(0)));
            Due.due("look, 13 deep to the left by " + word, run.look(), -112);
            run.path(Words.toTheRight(word, 11, Words.edge(0)));
            Due.due("look, 12 deep to the right by " + word, run.look(), 0);
            Due.due("times, 12 deep to the right by " + word, run.times(0, 0), due);
            run.path(Words.toTheRight(word, 12, Words.edge(0)));
            Due.due("look, 13 deep to the right by " + word, run.look(), -134);
            run.path(Words.toTheRight(word, 11, Words.of(4, Words.edge(0))));
            Due.due("look, the last one 13 deep to the right by " + word, run.look(), -134);
        }
        run.path(Words.chain(4, 11, Words.not(255)));
        Due.due("look, m is no part: 12 deep", run.look(), 0);
        run.path(Words.chain(4, 12, Words.not(255)));
        Due.due("look, 13 deep with m", run.look(), -112);
    }

    private static void otherwiseNone() {
        Due.sentence("Terms", "(In 4, 5, 6 otherwise 0.)");
        Run run = new Run();
        run.edges(0, 0, 1, 2);
        run.edge(0, 1, 63);
        for (int word : new int[] {4, 5, 6}) {
            run.path(word, 0, 0);
            Due.due("another label: times(0, 63) by " + word, run.times(0, 63), 0);
            Due.due("backwards: times(2, 0) by " + word, run.times(2, 0), 0);
            Due.due("times(0, 1) by " + word, run.times(0, 1), 1);
            Due.due("two steps: times(0, 2) by " + word, run.times(0, 2), word == 4 ? 0 : 1);
            Due.due("x is y: times(0, 0) by " + word, run.times(0, 0), word == 6 ? 0 : 1);
        }
    }

    /**
     * Each step multiplies what stands at the points 1 and 2 together by ten, and adds nine: from
     * point 0, where one always stays, fifteen steps give 10^15 - 1 there. A last step, over the
     * labels 6 and 7, brings it to point 63, where edges from point 0 make it one or two more.
     */
    private static Run nearTheMost() {
        Run run = new Run();
        run.edge(0, 0, 0);
        for (int label = 0; label < 5; label++) {
            run.edge(0, label, 1);
            for (int from = 1; from <= 2; from++) {
                run.edge(from, label, 1);
                run.edge(from, label, 2);
            }
        }
        for (int label = 0; label < 4; label++) {
            run.edge(0, label, 2);
        }
        run.edge(1, 6, 63);
        run.edge(2, 7, 63);
        return run;
    }

    private static void mostTimes() {
        Due.sentence("Terms", "What would be above 10^15 is 10^15");
        Run run = nearTheMost();
        int[] steps = Words.row(2, 15, Words.not(192));
        run.path(Words.of(2, steps, Words.not(63)));
        Due.due("look", run.look(), 0);
        Due.due("times, one below", run.times(0, 63), Bounds.MOST_TIMES - 1);
        Due.due("all, one below", run.all(0), Bounds.MOST_TIMES - 1);
        run.edge(0, 6, 63);
        Due.due("times, just the most", run.times(0, 63), Bounds.MOST_TIMES);
        Due.due("all, just the most", run.all(0), Bounds.MOST_TIMES);
        run.edge(0, 7, 63);
        Due.due("times, one above", run.times(0, 63), Bounds.MOST_TIMES);
        Due.due("all, one above", run.all(0), Bounds.MOST_TIMES);
        run.drop(0, 6, 63);
        Due.due("times, just the most again", run.times(0, 63), Bounds.MOST_TIMES);
        run.drop(0, 7, 63);
        Due.due("times, one below again", run.times(0, 63), Bounds.MOST_TIMES - 1);
        run.edge(0, 6, 62);
        Due.due("times, another end", run.times(0, 63), Bounds.MOST_TIMES - 1);
        Due.due("all, just the most by two ends", run.all(0), Bounds.MOST_TIMES);
        run.edge(0, 6, 61);
        Due.due("all, one above by three ends", run.all(0), Bounds.MOST_TIMES);
        run.path(Words.of(3, Words.of(2, steps, Words.not(63)), Words.edge(5)));
        run.edge(0, 5, 63);
        Due.due("times of 3, just the most", run.times(0, 63), Bounds.MOST_TIMES);
        run.drop(0, 5, 63);
        Due.due("times of 3, one below", run.times(0, 63), Bounds.MOST_TIMES - 1);
        run.path(Words.of(3, Words.edge(5), Words.of(2, steps, Words.not(63))));
        Due.due("times of 3 turned, one below", run.times(0, 63), Bounds.MOST_TIMES - 1);
        run.edge(0, 5, 63);
        Due.due("times of 3 turned, just the most", run.times(0, 63), Bounds.MOST_TIMES);
        run.path(Words.of(1, Words.of(2, steps, Words.not(63))));
        Due.due("times of 1, one below", run.times(63, 0), Bounds.MOST_TIMES - 1);
        run.edge(0, 7, 63);
        Due.due("times of 1, just the most", run.times(63, 0), Bounds.MOST_TIMES);
        run.edge(0, 6, 63);
        Due.due("times of 1, one above", run.times(63, 0), Bounds.MOST_TIMES);
    }

    /**
     * Above 2^63, where a long wraps around: in a ring, "5 0 0" n times in a row is found
     * 64^(n - 1) times for each pair of points.
     */
    private static void mostTimesBehindTheLong() {
        Due.sentence("Terms", "What would be above 10^15 is 10^15");
        Run run = ring();
        int[] any = Words.of(5, Words.edge(0));
        run.path(Words.row(2, 9, any));
        Due.due("2^48", run.times(5, 60), 1L << 48);
        Due.due("2^54 together", run.all(5), Bounds.MOST_TIMES);
        run.path(Words.row(2, 13, any));
        Due.due("2^72", run.times(5, 60), Bounds.MOST_TIMES);
        Due.due("2^78 together", run.all(5), Bounds.MOST_TIMES);
        for (int label = 1; label < 8; label++) {
            run.edge(63, label, 0);
        }
        run.path(Words.of(2, Words.row(2, 11, any), Words.not(0)));
        Due.due("2^63", run.times(5, 0), Bounds.MOST_TIMES);
        for (int label = 0; label < 8; label++) {
            run.edge(62, label, 0);
        }
        Due.due("2^64", run.times(5, 0), Bounds.MOST_TIMES);
        Due.due("2^60", run.times(5, 1), Bounds.MOST_TIMES);
        Due.due("ends", run.ends(5), 64);
    }

    /** In 4, 5 and 6 what is found so often is 1 again; and what is not found behind it is 0. */
    private static void mostTimesOnTheWay() {
        Due.sentence("Terms", "What would be above 10^15 is 10^15");
        Run run = new Run();
        for (int label = 0; label < 8; label++) {
            run.edge(0, label, 0);
        }
        int[] above = Words.row(2, 17, Words.not(0));
        run.path(above);
        Due.due("8^17", run.times(0, 0), Bounds.MOST_TIMES);
        run.path(Words.of(4, above));
        Due.due("8^17 or nothing", run.times(0, 0), 1);
        run.path(Words.of(5, above));
        Due.due("8^17 as often as one likes", run.times(0, 0), 1);
        run.path(Words.of(6, above));
        Due.due("8^17 once at least", run.times(0, 0), 1);
        run.path(Words.of(1, above));
        Due.due("8^17 backwards", run.times(0, 0), Bounds.MOST_TIMES);
        run.path(Words.of(2, above, Words.not(255)));
        Due.due("8^17, then nothing is found", run.times(0, 0), 0);
        Due.due("8^17, then nothing is found: all", run.all(0), 0);
        run.path(Words.of(3, above, Words.not(255)));
        Due.due("8^17, or nothing that is found", run.times(0, 0), Bounds.MOST_TIMES);
        Due.due("another point", run.times(63, 63), 0);
    }
}
