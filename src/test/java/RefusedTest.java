import java.util.ArrayList;
import java.util.List;
import java.util.function.ToLongFunction;

/**
 * A call that is refused changes nothing: two objects get the same calls, but one of them a
 * refused call more; all that both are asked behind it they answer alike.
 */
public final class RefusedTest {
    private static final int[] ASKED = {0, 1, 2, 31, 63};
    private static final int[][] EDGES = {
        {0, 0, 1}, {1, 0, 2}, {2, 0, 0}, {2, 7, 63}, {63, 7, 63}, {0, 3, 1}, {31, 0, 63}, {1, 1, 31},
    };

    /** What stands in an object before the refused call. */
    private record State(String name, int[][] edges, int[] words, boolean just) {
        private boolean isFull() {
            return words.length == 60;
        }

        private PathFinder made() {
            PathFinder finder = new PathFinder();
            for (int[] edge : edges) {
                finder.edge(edge[0], edge[1], edge[2]);
            }
            for (int word : words) {
                finder.word(word);
            }
            return finder;
        }
    }

    private record Refused(String name, long answer, ToLongFunction<PathFinder> call) {
    }

    private static final State[] STATES = {
        new State("new", new int[0][], Words.NONE, false),
        new State("edges alone", EDGES, Words.NONE, false),
        new State("path alone", new int[0][], new int[] {5, 0, 0}, true),
        new State("edges and a path", EDGES, new int[] {2, 5, 0, 0, 7, 1}, true),
        new State("a path with often and backwards", EDGES, new int[] {3, 1, 6, 7, 0, 4, 0, 7}, true),
        new State("some words lack", EDGES, new int[] {2, 5, 0, 0}, false),
        new State("a word too many", EDGES, new int[] {0, 0, 0}, false),
        new State("no such word", EDGES, new int[] {2, 0, 0, Integer.MIN_VALUE}, false),
        new State("a part too many", EDGES, Words.withParts(41), false),
        new State("a part too deep", EDGES, Words.chain(5, 12, Words.edge(0)), false),
        new State("full and just", EDGES, Words.longest(), true),
        new State("full, just, twenty steps", EDGES, Words.of(1, Words.row(2, 20, Words.not(0))), true),
        new State("full, a word too many", EDGES, Words.join(Words.just(59), 0), false),
        new State("full, some words lack", EDGES, Words.first(Words.row(2, 21, Words.edge(0)), 60), false),
    };

    public static void main(String[] args) {
        for (State state : STATES) {
            for (Refused refused : refusedIn(state)) {
                refusedFirst(state, refused);
                refusedBetween(state, refused);
            }
            allRefused(state);
        }
        Due.end();
    }

    private static List<Refused> refusedIn(State state) {
        List<Refused> list = new ArrayList<>();
        addEdgeCalls(list, state);
        addQuestionsOfNoPoint(list, state);
        if (!state.just()) {
            addQuestionsOfNoPath(list);
        }
        if (state.isFull()) {
            for (int word : new int[] {0, 7, 8, -1, Integer.MIN_VALUE, Integer.MAX_VALUE}) {
                list.add(new Refused("word(" + word + ")", PathFinder.FULL, finder -> finder.word(word)));
            }
        }
        return list;
    }

    private static void addEdgeCalls(List<Refused> list, State state) {
        for (int x : Bounds.NO_POINTS) {
            list.add(new Refused("edge from " + x, PathFinder.BAD, finder -> finder.edge(x, 0, 1)));
            list.add(new Refused("edge to " + x, PathFinder.BAD, finder -> finder.edge(0, 0, x)));
            list.add(new Refused("drop from " + x, PathFinder.BAD, finder -> finder.drop(x, 0, 1)));
            list.add(new Refused("drop to " + x, PathFinder.BAD, finder -> finder.drop(0, 0, x)));
        }
        for (int label : Bounds.NO_LABELS) {
            list.add(new Refused("edge of label " + label, PathFinder.BAD, finder -> finder.edge(0, label, 1)));
            list.add(new Refused("drop of label " + label, PathFinder.BAD, finder -> finder.drop(0, label, 1)));
        }
        for (int[] edge : state.edges()) {
            list.add(new Refused("edge that is there", 0, finder -> finder.edge(edge[0], edge[1], edge[2])));
        }
        list.add(new Refused("drop(0, 1, 1), not there", 0, finder -> finder.drop(0, 1, 1)));
        list.add(new Refused("drop(63, 7, 0), not there", 0, finder -> finder.drop(63, 7, 0)));
    }

    private static void addQuestionsOfNoPoint(List<Refused> list, State state) {
        for (int x : Bounds.NO_POINTS) {
            list.add(new Refused("times(" + x + ", 0)", PathFinder.BAD, finder -> finder.times(x, 0)));
            list.add(new Refused("times(0, " + x + ")", PathFinder.BAD, finder -> finder.times(0, x)));
            list.add(new Refused("times(" + x + ", itself)", PathFinder.BAD, finder -> finder.times(x, x)));
            list.add(new Refused("ends(" + x + ")", PathFinder.BAD, finder -> finder.ends(x)));
            list.add(new Refused("all(" + x + ")", PathFinder.BAD, finder -> finder.all(x)));
            list.add(new Refused("reached(" + x + ")", state.just() ? PathFinder.BAD : 0, finder -> finder.reached(x)));
            list.add(new Refused("reaching(" + x + ")", 0, finder -> finder.reaching(x)));
        }
    }

    private static void addQuestionsOfNoPath(List<Refused> list) {
        for (int x : Bounds.LAST_POINTS) {
            list.add(new Refused("times(" + x + ", 1)", PathFinder.NO, finder -> finder.times(x, 1)));
            list.add(new Refused("ends(" + x + ")", PathFinder.NO, finder -> finder.ends(x)));
            list.add(new Refused("all(" + x + ")", PathFinder.NO, finder -> finder.all(x)));
            list.add(new Refused("reached(" + x + ")", 0, finder -> finder.reached(x)));
            list.add(new Refused("reaching(" + x + ")", 0, finder -> finder.reaching(x)));
        }
        list.add(new Refused("pairs()", PathFinder.NO, PathFinder::pairs));
    }

    /** Before anything has been asked. */
    private static void refusedFirst(State state, Refused refused) {
        PathFinder finder = state.made();
        PathFinder twin = state.made();
        refuse(state, finder, refused);
        alike(state, refused.name(), finder, twin);
    }

    /** When all has been asked already, and each time behind a question from another point. */
    private static void refusedBetween(State state, Refused refused) {
        PathFinder finder = state.made();
        PathFinder twin = state.made();
        List<Long> before = answers(finder);
        refuse(state, finder, refused);
        same(state, refused.name() + ", asked again", answers(finder), before);
        answers(twin);
        answers(twin);
        for (int x : ASKED) {
            long times = finder.times(x, 63);
            refuse(state, finder, refused);
            Due.due(state.name() + ", " + refused.name() + ": times(" + x + ", 63) again", finder.times(x, 63), times);
        }
        alike(state, refused.name() + ", between", finder, twin);
    }

    /** All of them, one behind the other; at most 512 calls on one object. */
    private static void allRefused(State state) {
        PathFinder finder = state.made();
        PathFinder twin = state.made();
        for (Refused refused : refusedIn(state)) {
            refuse(state, finder, refused);
        }
        alike(state, "all refused calls", finder, twin);
    }

    private static void refuse(State state, PathFinder finder, Refused refused) {
        Due.due(state.name() + ": " + refused.name(), refused.call().applyAsLong(finder), refused.answer());
    }

    private static void alike(State state, String what, PathFinder finder, PathFinder twin) {
        same(state, what, answers(finder), answers(twin));
        same(state, what + ", and changes", changes(finder), changes(twin));
        same(state, what + ", and changes, asked again", answers(finder), answers(twin));
    }

    private static void same(State state, String what, List<Long> got, List<Long> want) {
        Due.holds(state.name() + ", " + what + ": " + got + " is " + want, got.equals(want));
    }

    private static List<Long> answers(PathFinder finder) {
        List<Long> list = new ArrayList<>();
        list.add((long) finder.edges());
        list.add((long) finder.look());
        list.add((long) finder.pairs());
        for (int x : ASKED) {
            list.add((long) finder.ends(x));
            list.add(finder.reached(x));
            list.add(finder.all(x));
            list.add(finder.reaching(x));
            list.add(finder.times(x, 0));
            list.add(finder.times(x, 63));
        }
        return list;
    }

    /** The edge and the words that the refused calls were about come and go. */
    private static List<Long> changes(PathFinder finder) {
        List<Long> list = new ArrayList<>();
        list.add((long) finder.edge(0, 1, 1));
        list.add((long) finder.drop(0, 0, 1));
        list.add((long) finder.edge(0, 0, 1));
        list.add((long) finder.edge(0, 0, 63));
        list.add((long) finder.edges());
        list.add((long) finder.pairs());
        list.add((long) finder.word(0));
        list.add((long) finder.look());
        list.add((long) finder.clear());
        list.add((long) finder.look());
        for (int word : new int[] {2, 5, 7, 0, 0, 7}) {
            list.add((long) finder.word(word));
        }
        list.add((long) finder.look());
        return list;
    }
}
