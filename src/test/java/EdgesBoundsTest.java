/** The boundary cases of promises 1 to 4 (a new object, edge, drop, edges), a test for each sentence. */
public final class EdgesBoundsTest {
    public static void main(String[] args) {
        noEdges();
        noPath();
        apartFromOthers();
        edgeComes();
        edgeIsThere();
        edgeIsBad();
        edgeGoes();
        edgeIsNotThere();
        dropIsBad();
        howManyEdges();
        mostEdgesOfARun();
        Due.end();
    }

    private static void noEdges() {
        Due.sentence("Promise 1", "No edges, no path.");
        Run run = new Run();
        Due.due("edges", run.edges(), 0);
        for (int from : Bounds.LAST_POINTS) {
            for (int label : Bounds.LAST_LABELS) {
                for (int to : Bounds.LAST_POINTS) {
                    Due.due("drop where no edge is", run.drop(from, label, to), 0);
                }
            }
        }
        run.words(7, 0);
        Due.due("pairs of all edges", run.pairs(), 0);
        for (int x = 0; x < 64; x++) {
            Due.due("reached from " + x, run.reached(x), 0);
            Due.due("all from " + x, run.all(x), 0);
        }
        Due.due("edges still", run.edges(), 0);
    }

    private static void noPath() {
        Due.sentence("Promise 1", "No edges, no path.");
        Due.due("look first", new Run().look(), -100);
        Due.due("clear first", new Run().clear(), 0);
        Due.due("word first", new Run().word(0), 1);
        Due.due("times first", new Run().times(0, 0), PathFinder.NO);
        Due.due("times of no point first", new Run().times(0, 64), PathFinder.BAD);
        Due.due("ends first", new Run().ends(0), PathFinder.NO);
        Due.due("ends of no point first", new Run().ends(-1), PathFinder.BAD);
        Due.due("reached first", new Run().reached(0), 0);
        Due.due("reached of no point first", new Run().reached(64), 0);
        Due.due("all first", new Run().all(0), PathFinder.NO);
        Due.due("all of no point first", new Run().all(64), PathFinder.BAD);
        Due.due("reaching first", new Run().reaching(0), 0);
        Due.due("reaching of no point first", new Run().reaching(-1), 0);
        Due.due("pairs first", new Run().pairs(), PathFinder.NO);
    }

    private static void apartFromOthers() {
        Due.sentence("Promise 1", "A new object");
        Run old = new Run();
        old.edge(0, 0, 63);
        old.words(Words.longest());
        Run run = new Run();
        Due.due("edges of a new one beside an old one", run.edges(), 0);
        Due.due("look of a new one", run.look(), -100);
        Due.due("edge of a new one", run.edge(0, 0, 63), 1);
        Due.due("word of a new one", run.word(0), 1);
        Due.due("drop in the new one", run.drop(0, 0, 63), 1);
        Due.due("clear of the new one", run.clear(), 1);
        Due.due("edges of the old one", old.edges(), 1);
        Due.due("look of the old one", old.look(), 0);
        Due.due("times of the old one", old.times(63, 63), 1);
        Due.due("a 61st word of the old one", old.word(0), PathFinder.FULL);
    }

    private static void edgeComes() {
        Due.sentence("Promise 2", "An edge comes: 1");
        Run run = new Run();
        int count = 0;
        for (int from : Bounds.LAST_POINTS) {
            for (int label : Bounds.LAST_LABELS) {
                for (int to : Bounds.LAST_POINTS) {
                    Due.due("edge at the bounds", run.edge(from, label, to), 1);
                    count++;
                    Due.due("edges", run.edges(), count);
                    run.path(0, label);
                    Due.due("times of it", run.times(from, to), 1);
                }
            }
        }
        run.path(7, 0);
        Due.due("pairs", run.pairs(), 4);
        Due.due("all from 0", run.all(0), 4);
        Due.due("all from 63", run.all(63), 4);
    }

    private static void edgeIsThere() {
        Due.sentence("Promise 2", "0 when it is there");
        Run run = new Run();
        run.words(7, 0);
        for (int x : Bounds.LAST_POINTS) {
            for (int label : Bounds.LAST_LABELS) {
                Due.due("edge", run.edge(x, label, 63 - x), 1);
                Due.due("edge again", run.edge(x, label, 63 - x), 0);
                Due.due("times of it", run.times(x, 63 - x), label == 0 ? 1 : 2);
                Due.due("another label", run.edge(x, 3, x), label == 0 ? 1 : 0);
                Due.due("edge once more", run.edge(x, label, 63 - x), 0);
            }
        }
        Due.due("edges", run.edges(), 6);
        Due.due("drop", run.drop(0, 0, 63), 1);
        Due.due("edge when it went", run.edge(0, 0, 63), 1);
        Due.due("edge when it came back", run.edge(0, 0, 63), 0);
        Due.due("edges at last", run.edges(), 6);
    }

    private static void edgeIsBad() {
        Due.sentence("Promise 2", "An edge comes: 1; 0 when it is there; BAD.");
        Run run = new Run();
        run.words(7, 0);
        for (int x : Bounds.LAST_POINTS) {
            run.edge(x, 0, 63 - x);
        }
        for (int x : Bounds.NO_POINTS) {
            Due.due("edge from " + x, run.edge(x, 0, 63), PathFinder.BAD);
            Due.due("edge to " + x, run.edge(63, 0, x), PathFinder.BAD);
            Due.due("edge from and to " + x, run.edge(x, 7, x), PathFinder.BAD);
            Due.due("edge with nothing right: " + x, run.edge(x, x < 0 ? x : 8, x), PathFinder.BAD);
            Due.due("edges behind BAD", run.edges(), 2);
        }
        for (int label : Bounds.NO_LABELS) {
            Due.due("edge of label " + label, run.edge(0, label, 63), PathFinder.BAD);
            Due.due("edge of label " + label, run.edge(63, label, 63), PathFinder.BAD);
            Due.due("edges behind BAD", run.edges(), 2);
        }
        Due.due("pairs behind BAD", run.pairs(), 2);
        Due.due("reached behind BAD", run.reached(0), 1L << 63);
        Due.due("reaching behind BAD", run.reaching(0), 1L << 63);
        Due.due("edge behind BAD", run.edge(63, 7, 63), 1);
        Due.due("edge that is there behind BAD", run.edge(0, 0, 63), 0);
    }

    private static void edgeGoes() {
        Due.sentence("Promise 3", "An edge goes: 1");
        Run run = new Run();
        run.words(7, 0);
        int count = 0;
        for (int from : Bounds.LAST_POINTS) {
            for (int label : Bounds.LAST_LABELS) {
                for (int to : Bounds.LAST_POINTS) {
                    run.edge(from, label, to);
                    count++;
                }
            }
        }
        for (int from : Bounds.LAST_POINTS) {
            for (int label : Bounds.LAST_LABELS) {
                for (int to : Bounds.LAST_POINTS) {
                    Due.due("drop at the bounds", run.drop(from, label, to), 1);
                    count--;
                    Due.due("edges", run.edges(), count);
                    Due.due("times", run.times(from, to), label == 0 ? 1 : 0);
                }
            }
        }
        Due.due("pairs at last", run.pairs(), 0);
        Due.due("edge anew", run.edge(63, 7, 63), 1);
        Due.due("times anew", run.times(63, 63), 1);
    }

    private static void edgeIsNotThere() {
        Due.sentence("Promise 3", "0 when it is not there");
        Run run = new Run();
        run.words(7, 0);
        Due.due("drop without edges", run.drop(0, 0, 63), 0);
        run.edge(0, 0, 63);
        Due.due("drop of another label", run.drop(0, 7, 63), 0);
        Due.due("drop of the other way", run.drop(63, 0, 0), 0);
        Due.due("drop from another point", run.drop(1, 0, 63), 0);
        Due.due("drop to another point", run.drop(0, 0, 62), 0);
        Due.due("edges", run.edges(), 1);
        Due.due("times", run.times(0, 63), 1);
        Due.due("drop", run.drop(0, 0, 63), 1);
        Due.due("drop again", run.drop(0, 0, 63), 0);
        Due.due("drop once more", run.drop(0, 0, 63), 0);
        Due.due("edges at last", run.edges(), 0);
        Due.due("edge behind it", run.edge(0, 0, 63), 1);
        Due.due("edges behind it", run.edges(), 1);
    }

    private static void dropIsBad() {
        Due.sentence("Promise 3", "An edge goes: 1; 0 when it is not there; BAD.");
        Run run = new Run();
        run.words(7, 0);
        for (int from : Bounds.LAST_POINTS) {
            for (int to : Bounds.LAST_POINTS) {
                run.edge(from, 0, to);
            }
        }
        for (int x : Bounds.NO_POINTS) {
            Due.due("drop from " + x, run.drop(x, 0, 63), PathFinder.BAD);
            Due.due("drop to " + x, run.drop(0, 0, x), PathFinder.BAD);
            Due.due("drop from and to " + x, run.drop(x, 7, x), PathFinder.BAD);
            Due.due("drop with nothing right: " + x, run.drop(x, x < 0 ? x : 8, x), PathFinder.BAD);
            Due.due("edges behind BAD", run.edges(), 4);
        }
        for (int label : Bounds.NO_LABELS) {
            Due.due("drop of label " + label, run.drop(0, label, 63), PathFinder.BAD);
            Due.due("drop of label " + label, run.drop(63, label, 0), PathFinder.BAD);
            Due.due("edges behind BAD", run.edges(), 4);
        }
        Due.due("pairs behind BAD", run.pairs(), 4);
        Due.due("drop behind BAD", run.drop(0, 0, 63), 1);
        Due.due("drop of the one that went", run.drop(0, 0, 63), 0);
    }

    private static void howManyEdges() {
        Due.sentence("Promise 4", "How many edges there are.");
        Run run = new Run();
        Due.due("edges of none", run.edges(), 0);
        run.drop(0, 0, 0);
        Due.due("edges behind a drop of none", run.edges(), 0);
        run.edge(0, 0, 0);
        Due.due("edges of one", run.edges(), 1);
        run.edge(0, 0, 0);
        Due.due("edges of one twice", run.edges(), 1);
        run.edge(0, 1, 0);
        Due.due("edges of two labels", run.edges(), 2);
        run.path(Words.longest());
        run.word(0);
        run.clear();
        Due.due("edges behind a path", run.edges(), 2);
        run.drop(0, 0, 0);
        run.drop(0, 1, 0);
        Due.due("edges when both went", run.edges(), 0);
    }

    /** 511 calls of edge and one of edges are all that an object is used for. */
    private static void mostEdgesOfARun() {
        Due.sentence("Promise 4", "How many edges there are.");
        Run run = new Run();
        for (int n = 0; n < 511; n++) {
            Due.due("edge " + n, run.edge(n % 64, n / 64, 63 - n % 64), 1);
        }
        Due.due("edges of 511", run.edges(), 511);
        run = new Run();
        for (int n = 0; n < 255; n++) {
            run.edge(63, n % 8, n / 8);
        }
        Due.due("edges of 255", run.edges(), 255);
        for (int n = 0; n < 255; n++) {
            Due.due("drop " + n, run.drop(63, n % 8, n / 8), 1);
        }
        Due.due("edges of none at the 512th call", run.edges(), 0);
    }
}
