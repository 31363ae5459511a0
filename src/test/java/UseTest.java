import java.lang.reflect.Field;
import java.lang.reflect.Modifier;
import java.util.ArrayList;
import java.util.Collections;
import java.util.List;
import java.util.Random;
import java.util.function.ToLongFunction;

/** "What it is" and "Not promised": how objects are used, and what no answer may hang on. */
public final class UseTest {
    private static final int[][] EDGES = {
        {0, 0, 1}, {0, 1, 1}, {1, 0, 2}, {1, 1, 2}, {2, 7, 0}, {2, 3, 63}, {63, 7, 63}, {31, 0, 63},
    };
    private static final int[] PATH = {2, 7, 0, 5, 7, 1};
    private static final int THREADS = 8;
    private static final int LATER_CALLS = 4000;
    private static final long PATIENCE_MILLIS = 60_000;

    public static void main(String[] args) throws InterruptedException {
        whichWaysAndHowOften();
        lastCall();
        laterCalls();
        laterCallsOfOneKind();
        stateIsFree();
        speedIsFree();
        asObjects();
        threads();
        nothingBeyond();
        Due.end();
    }

    private static void whichWaysAndHowOften() {
        Due.sentence("What it is",
            "Paths over labelled edges: by which ways, and how often, one point is reached from another one.");
        Run run = new Run();
        run.edges(0, 1, 2, 3);
        run.edges(1, 1, 4, 3);
        run.path(2, 0, 0, 0, 0);
        Due.due("by edges of label 0", run.times(1, 3), 1);
        run.path(2, 0, 1, 0, 1);
        Due.due("by edges of label 1", run.times(1, 3), 1);
        run.path(2, 0, 0, 0, 1);
        Due.due("by one of each", run.times(1, 3), 0);
        run.path(2, 7, 0, 7, 0);
        Due.due("by any edges", run.times(1, 3), 2);
        Due.due("which points", run.reached(1), 1L << 3);
        Due.due("from which points", run.reaching(3), 1L << 1);
    }

    /** The 512th call is answered as any other one, whichever it is. */
    private static void lastCall() {
        Due.sentence("What it is", "An object is used for at most 512 calls after it has been made");
        List<ToLongFunction<Run>> calls = List.of(
            run -> run.edge(62, 6, 62), run -> run.edge(0, 0, 1), run -> run.drop(0, 0, 1), run -> run.drop(9, 0, 9),
            Run::edges, run -> run.word(0), Run::clear, Run::look, run -> run.times(0, 2), run -> run.ends(2),
            run -> run.reached(2), run -> run.all(0), run -> run.reaching(63), Run::pairs, run -> run.edge(64, 0, 0),
            run -> run.times(0, 64), run -> run.ends(-1), run -> run.reached(64), run -> run.all(-1), run -> run.reaching(64));
        for (ToLongFunction<Run> call : calls) {
            Run run = new Run();
            for (int[] edge : EDGES) {
                run.edge(edge[0], edge[1], edge[2]);
            }
            run.words(PATH);
            for (int n = 0; run.callsLeft() > 1; n++) {
                run.times(n % 64, 2);
            }
            call.applyAsLong(run);
            Due.due("calls left", run.callsLeft(), 0);
        }
    }

    /** What they answer is free, but none throws, each ends, and other objects stay as they are. */
    private static void laterCalls() throws InterruptedException {
        Due.sentence("What it is", "what later calls answer is free.");
        PathFinder other = made();
        List<Long> before = answers(other);
        inTime("calls behind the 512th one", () -> {
            for (int seed = 0; seed < 20; seed++) {
                PathFinder finder = made();
                Random random = new Random(seed);
                for (int n = 0; n < LATER_CALLS; n++) {
                    anyCall(finder, random);
                }
            }
        });
        Due.holds("another object is as before", answers(other).equals(before));
        Due.due("edges of a new one", new PathFinder().edges(), 0);
        Due.due("look of a new one", new PathFinder().look(), -100);
    }

    private static void laterCallsOfOneKind() throws InterruptedException {
        Due.sentence("Not promised", "and nothing about an object after its 512th call.");
        inTime("all edges, all words", () -> {
            PathFinder finder = new PathFinder();
            for (int n = 0; n < 64 * 8 * 64; n++) {
                finder.edge(n / 512, n / 64 % 8, n % 64);
            }
            for (int n = 0; n < 1000; n++) {
                finder.word(Words.longest()[n % 60]);
            }
            askAll(finder);
            for (int n = 0; n < 64 * 8 * 64; n++) {
                finder.drop(n / 512, n / 64 % 8, n % 64);
            }
            askAll(finder);
        });
        Due.holds("a new object answers as ever", answers(made()).equals(answers(made())));
    }

    /** Nothing of the state is seen, and it is the same by whichever calls it came to be. */
    private static void stateIsFree() {
        Due.sentence("Not promised", "How the state is held inside the object is free");
        for (Field field : PathFinder.class.getDeclaredFields()) {
            Due.holds(field + " is not seen", Modifier.isStatic(field.getModifiers()) || Modifier.isPrivate(field.getModifiers()));
        }
        List<Long> due = answers(made());
        for (int seed = 0; seed < 50; seed++) {
            Due.holds("the same edges and path by other calls answer alike",
                answers(madeByOtherCalls(new Random(seed))).equals(due));
        }
    }

    private static PathFinder madeByOtherCalls(Random random) {
        PathFinder finder = new PathFinder();
        List<int[]> edges = new ArrayList<>(List.of(EDGES));
        Collections.shuffle(edges, random);
        Due.path(finder, Words.just(2 + random.nextInt(59)));
        for (int[] edge : edges) {
            int x = random.nextInt(64);
            boolean more = finder.edge(x, 6, x) == 1;
            finder.edge(edge[0], edge[1], edge[2]);
            finder.times(x, x);
            finder.drop(edge[0], edge[1], edge[2]);
            finder.pairs();
            finder.edge(edge[0], edge[1], edge[2]);
            if (more) {
                finder.drop(x, 6, x);
            }
        }
        Due.path(finder, PATH);
        return finder;
    }

    /** Whatever is kept between calls for speed: a question is answered alike first, again, and late. */
    private static void speedIsFree() {
        Due.sentence("Not promised", "as are the speed of each call");
        List<ToLongFunction<PathFinder>> questions = questions();
        PathFinder late = made();
        for (ToLongFunction<PathFinder> question : questions) {
            PathFinder first = made();
            long answer = question.applyAsLong(first);
            Due.due("asked again", question.applyAsLong(first), answer);
            Due.due("asked behind other questions", question.applyAsLong(late), answer);
        }
    }

    private static void asObjects() {
        Due.sentence("Not promised", "the text of toString and the behaviour of equals and hashCode.");
        PathFinder finder = new PathFinder();
        PathFinder twin = new PathFinder();
        for (int[] edge : EDGES) {
            asObject(finder, twin);
            finder.edge(edge[0], edge[1], edge[2]);
            twin.edge(edge[0], edge[1], edge[2]);
        }
        for (int word : PATH) {
            asObject(finder, twin);
            finder.word(word);
            twin.word(word);
        }
        asObject(finder, twin);
        Due.holds("they change no answer", answers(finder).equals(answers(made())));
        asObject(finder, twin);
        Due.holds("nor a later one", answers(finder).equals(answers(twin)));
    }

    /** What these answer is free; they are called all the same. */
    private static void asObject(PathFinder finder, PathFinder twin) {
        finder.toString();
        finder.hashCode();
        finder.equals(finder);
        finder.equals(twin);
        finder.equals(null);
    }

    /** One object in each thread is no use of one object from several: each answers as if alone. */
    private static void threads() throws InterruptedException {
        Due.sentence("Not promised", "Use of one object from several threads at once is not promised to be safe.");
        List<List<Long>> alone = new ArrayList<>();
        List<List<Long>> atOnce = Collections.synchronizedList(new ArrayList<>());
        List<Thread> threads = new ArrayList<>();
        for (int n = 0; n < THREADS; n++) {
            int seed = n;
            alone.add(drawnAnswers(seed));
            atOnce.add(List.of());
            threads.add(new Thread(() -> atOnce.set(seed, drawnAnswers(seed))));
        }
        for (Thread thread : threads) {
            thread.setDaemon(true);
            thread.start();
        }
        for (Thread thread : threads) {
            thread.join(PATIENCE_MILLIS);
        }
        for (int n = 0; n < THREADS; n++) {
            Due.holds("thread " + n + " gets the answers that it gets alone", atOnce.get(n).equals(alone.get(n)));
        }
    }

    private static List<Long> drawnAnswers(int seed) {
        List<Long> answers = new ArrayList<>();
        for (int run = 0; run < 50; run++) {
            Random random = new Random(1000L * seed + run);
            PathFinder finder = made();
            for (int n = EDGES.length + PATH.length; n < 512; n++) {
                answers.add(anyCall(finder, random));
            }
        }
        return answers;
    }

    /** A question changes nothing: in whatever order they are asked, the answers are the same. */
    private static void nothingBeyond() {
        Due.sentence("Not promised", "Nothing is promised beyond the answers and state changes described above");
        List<ToLongFunction<PathFinder>> questions = questions();
        List<Integer> order = new ArrayList<>();
        long[] due = new long[questions.size()];
        PathFinder first = made();
        for (int n = 0; n < due.length; n++) {
            order.add(n);
            due[n] = questions.get(n).applyAsLong(first);
        }
        for (int seed = 0; seed < 50; seed++) {
            Collections.shuffle(order, new Random(seed));
            PathFinder finder = made();
            for (int n : order) {
                Due.due("question " + n, questions.get(n).applyAsLong(finder), due[n]);
            }
        }
    }

    private static PathFinder made() {
        PathFinder finder = new PathFinder();
        for (int[] edge : EDGES) {
            finder.edge(edge[0], edge[1], edge[2]);
        }
        for (int word : PATH) {
            finder.word(word);
        }
        return finder;
    }

    private static List<ToLongFunction<PathFinder>> questions() {
        List<ToLongFunction<PathFinder>> list = new ArrayList<>(List.of(PathFinder::edges, PathFinder::look, PathFinder::pairs));
        for (int x : new int[] {0, 1, 2, 31, 62, 63, -1, 64}) {
            list.add(finder -> finder.ends(x));
            list.add(finder -> finder.reached(x));
            list.add(finder -> finder.all(x));
            list.add(finder -> finder.reaching(x));
            for (int y : new int[] {0, 2, 63, 64}) {
                list.add(finder -> finder.times(x, y));
            }
        }
        return list;
    }

    private static List<Long> answers(PathFinder finder) {
        List<Long> list = new ArrayList<>();
        for (ToLongFunction<PathFinder> question : questions()) {
            list.add(question.applyAsLong(finder));
        }
        return list;
    }

    private static void askAll(PathFinder finder) {
        finder.look();
        finder.pairs();
        for (int x = -1; x <= 64; x++) {
            finder.ends(x);
            finder.reached(x);
            finder.all(x);
            finder.reaching(x);
            finder.times(x, 63 - x);
        }
    }

    private static long anyCall(PathFinder finder, Random random) {
        int x = random.nextInt(66) - 1;
        int y = random.nextInt(66) - 1;
        switch (random.nextInt(14)) {
            case 0: case 1:
                return finder.edge(x, random.nextInt(10) - 1, y);
            case 2:
                return finder.drop(x, random.nextInt(10) - 1, y);
            case 3:
                return finder.edges();
            case 4: case 5:
                return finder.word(random.nextInt(9));
            case 6:
                return random.nextInt(8) == 0 ? finder.clear() : finder.look();
            case 7: case 8:
                return finder.times(x, y);
            case 9:
                return finder.ends(x);
            case 10:
                return finder.reached(x);
            case 11:
                return finder.all(x);
            case 12:
                return finder.reaching(y);
            default:
                return finder.pairs();
        }
    }

    /** In a thread of its own, as a call that does not end would else keep the test from its end. */
    private static void inTime(String what, Runnable calls) throws InterruptedException {
        boolean[] done = {false};
        Thread thread = new Thread(() -> {
            calls.run();
            done[0] = true;
        });
        thread.setDaemon(true);
        thread.start();
        thread.join(PATIENCE_MILLIS);
        Due.holds(what + ": none throws, each ends", done[0] && !thread.isAlive());
    }
}
