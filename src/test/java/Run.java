import java.util.ArrayList;
import java.util.List;

/**
 * A run of calls on one object, at most 512: each answer is held against the Model's, and given
 * back, so that a test can ask for the one that it knows.
 */
final class Run {
    static final int MOST_CALLS = 512;

    private final PathFinder finder = new PathFinder();
    private final Model model = new Model();
    private final List<String> calls = new ArrayList<>();
    private boolean told = false;

    int edge(int from, int label, int to) {
        return (int) held("edge(" + from + ", " + label + ", " + to + ")",
            finder.edge(from, label, to), model.edge(from, label, to));
    }

    int drop(int from, int label, int to) {
        return (int) held("drop(" + from + ", " + label + ", " + to + ")",
            finder.drop(from, label, to), model.drop(from, label, to));
    }

    int edges() {
        return (int) held("edges()", finder.edges(), model.edges());
    }

    int word(int v) {
        return (int) held("word(" + v + ")", finder.word(v), model.word(v));
    }

    int clear() {
        return (int) held("clear()", finder.clear(), model.clear());
    }

    int look() {
        return (int) held("look()", finder.look(), model.look());
    }

    long times(int x, int y) {
        return held("times(" + x + ", " + y + ")", finder.times(x, y), model.times(x, y));
    }

    int ends(int x) {
        return (int) held("ends(" + x + ")", finder.ends(x), model.ends(x));
    }

    long reached(int x) {
        return held("reached(" + x + ")", finder.reached(x), model.reached(x));
    }

    long all(int x) {
        return held("all(" + x + ")", finder.all(x), model.all(x));
    }

    long reaching(int y) {
        return held("reaching(" + y + ")", finder.reaching(y), model.reaching(y));
    }

    int pairs() {
        return (int) held("pairs()", finder.pairs(), model.pairs());
    }

    /** Puts these words in place of the path; one call, and one for each word. */
    void path(int... words) {
        clear();
        words(words);
    }

    void words(int... words) {
        for (int word : words) {
            word(word);
        }
    }

    /** Edges of the label from each point to the next one. */
    void edges(int label, int... points) {
        for (int n = 1; n < points.length; n++) {
            edge(points[n - 1], label, points[n]);
        }
    }

    int callsLeft() {
        return MOST_CALLS - calls.size();
    }

    private long held(String call, long got, long want) {
        calls.add(call);
        Due.holds("a run has at most " + MOST_CALLS + " calls", calls.size() <= MOST_CALLS);
        Due.due(call + " as call " + calls.size() + " of a run", got, want);
        if (got != want && !told) {
            told = true;
            System.out.println("  the run: " + calls);
        }
        return got;
    }
}
