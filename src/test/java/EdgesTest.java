/** Promises 1 to 4: a new object, edge, drop, edges. */
public final class EdgesTest {
    private static final int[] NO_POINTS = {-1, 64, 65, Integer.MIN_VALUE, Integer.MAX_VALUE};
    private static final int[] NO_LABELS = {-1, 8, 9, Integer.MIN_VALUE, Integer.MAX_VALUE};

    public static void main(String[] args) {
        newObject();
        comeAndGo();
        corners();
        wrongInputs();
        apartFromEachOther();
        Due.end();
    }

    private static void newObject() {
        PathFinder finder = new PathFinder();
        Due.due("new: edges()", finder.edges(), 0);
        Due.due("new: look()", finder.look(), -100);
        Due.due("new: pairs()", finder.pairs(), PathFinder.NO);
        Due.due("new: drop(0, 0, 0)", finder.drop(0, 0, 0), 0);
        Due.due("new: clear()", finder.clear(), 0);
        Due.path(finder, 7, 0);
        Due.due("new: pairs() of all edges", finder.pairs(), 0);
        finder.edge(1, 1, 1);
        PathFinder other = new PathFinder();
        Due.due("another new one: edges()", other.edges(), 0);
        Due.due("another new one: look()", other.look(), -100);
    }

    private static void comeAndGo() {
        PathFinder finder = new PathFinder();
        Due.due("edge(3, 2, 4)", finder.edge(3, 2, 4), 1);
        Due.due("edge(3, 2, 4) again", finder.edge(3, 2, 4), 0);
        Due.due("edges() after one twice", finder.edges(), 1);
        Due.due("drop(4, 2, 3), the other way", finder.drop(4, 2, 3), 0);
        Due.due("drop(3, 1, 4), another label", finder.drop(3, 1, 4), 0);
        Due.due("edges() still", finder.edges(), 1);
        Due.due("drop(3, 2, 4)", finder.drop(3, 2, 4), 1);
        Due.due("drop(3, 2, 4) again", finder.drop(3, 2, 4), 0);
        Due.due("edges() after it went", finder.edges(), 0);
        Due.due("edge(3, 2, 4) anew", finder.edge(3, 2, 4), 1);
        Due.due("edges() after it came back", finder.edges(), 1);
        finder.word(0);
        finder.clear();
        Due.due("edges() after clear()", finder.edges(), 1);
    }

    private static void corners() {
        PathFinder finder = new PathFinder();
        int count = 0;
        for (int from = 0; from < 64; from += 63) {
            for (int label = 0; label < 8; label += 7) {
                for (int to = 0; to < 64; to += 63) {
                    count++;
                    Due.due("edge at a corner", finder.edge(from, label, to), 1);
                    Due.due("edges() at a corner", finder.edges(), count);
                }
            }
        }
        Due.due("drop(63, 7, 63)", finder.drop(63, 7, 63), 1);
        Due.due("drop(63, 7, 0)", finder.drop(63, 7, 0), 1);
        Due.due("drop(0, 7, 63)", finder.drop(0, 7, 63), 1);
        Due.due("edges() at last", finder.edges(), count - 3);
    }

    private static void wrongInputs() {
        PathFinder finder = new PathFinder();
        finder.edge(0, 0, 0);
        for (int x : NO_POINTS) {
            Due.due("edge from " + x, finder.edge(x, 0, 0), PathFinder.BAD);
            Due.due("edge to " + x, finder.edge(0, 0, x), PathFinder.BAD);
            Due.due("drop from " + x, finder.drop(x, 0, 0), PathFinder.BAD);
            Due.due("drop to " + x, finder.drop(0, 0, x), PathFinder.BAD);
        }
        for (int label : NO_LABELS) {
            Due.due("edge of label " + label, finder.edge(0, label, 0), PathFinder.BAD);
            Due.due("drop of label " + label, finder.drop(0, label, 0), PathFinder.BAD);
        }
        Due.due("edges() after wrong inputs", finder.edges(), 1);
        Due.due("edge(0, 0, 0) is still there", finder.edge(0, 0, 0), 0);
    }

    private static void apartFromEachOther() {
        PathFinder finder = new PathFinder();
        int count = 0;
        for (int from = 0; from < 64; from += 7) {
            for (int to = 0; to < 64; to += 3) {
                finder.edge(from, (from + to) % 8, to);
                count++;
            }
        }
        Due.due("edges() of many", finder.edges(), count);
        for (int from = 0; from < 64; from += 7) {
            for (int to = 0; to < 64; to += 3) {
                Due.due("drop of one of many", finder.drop(from, (from + to) % 8, to), 1);
            }
        }
        Due.due("edges() when all went", finder.edges(), 0);
    }
}
