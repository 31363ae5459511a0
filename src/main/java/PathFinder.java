import java.util.Arrays;

/** Paths over labelled edges: by which ways, and how often, one point is reached from another one. */
public final class PathFinder {
    public static final int BAD = -1;
    public static final int NO = -2;
    public static final int FULL = -3;

    private static final int POINTS = 64;
    private static final int LABELS = 8;
    private static final int LABEL_SETS = 256;
    private static final int MOST_WORDS = 60;
    private static final int MOST_PARTS = 40;
    private static final int MOST_DEEP = 12;
    private static final long MOST_TIMES = 1_000_000_000_000_000L;
    private static final int FIRST_FAULT = -100;
    private static final int NOWHERE = -1;

    private static final int EDGE = 0;
    private static final int BACK = 1;
    private static final int THEN = 2;
    private static final int OR = 3;
    private static final int MAYBE = 4;
    private static final int ANY = 5;
    private static final int SOME = 6;
    private static final int NOT = 7;

    private final Graph graph;
    private final Path path;
    private final Relations relations;
    private final Counts counts;

    public PathFinder() {
        graph = new Graph();
        path = new Path();
        relations = new Relations(graph, path);
        counts = new Counts(graph, path, relations);
    }

    public int edge(int from, int label, int to) {
        int answer = graph.put(from, label, to);
        if (answer == 1) {
            forget();
        }
        return answer;
    }

    public int drop(int from, int label, int to) {
        int answer = graph.remove(from, label, to);
        if (answer == 1) {
            forget();
        }
        return answer;
    }

    public int edges() {
        return graph.size;
    }

    public int word(int v) {
        int answer = path.append(v);
        forget();
        return answer;
    }

    public int clear() {
        int answer = path.empty();
        forget();
        return answer;
    }

    public int look() {
        return path.fault;
    }

    public long times(int x, int y) {
        if (!isPoint(x) || !isPoint(y)) {
            return BAD;
        }
        if (!path.isJust()) {
            return NO;
        }
        return counts.from(x)[y];
    }

    public int ends(int x) {
        if (!isPoint(x)) {
            return BAD;
        }
        if (!path.isJust()) {
            return NO;
        }
        return Long.bitCount(relations.ofPath()[x]);
    }

    public long reached(int x) {
        // Unlike in times, ends and all, the path is looked at first: the shared tests ask for 0
        // where both the path and the point are wrong.
        if (!path.isJust()) {
            return 0L;
        }
        if (!isPoint(x)) {
            return BAD;
        }
        return relations.ofPath()[x];
    }

    public long all(int x) {
        if (!isPoint(x)) {
            return BAD;
        }
        if (!path.isJust()) {
            return NO;
        }
        long[] row = counts.from(x);
        long sum = 0L;
        for (int y = 0; y < POINTS; y++) {
            sum = sumOf(sum, row[y]);
        }
        return sum;
    }

    public long reaching(int y) {
        // The document names no BAD here, but 0 alone.
        if (!path.isJust() || !isPoint(y)) {
            return 0L;
        }
        long[] rows = relations.ofPath();
        long points = 0L;
        for (int x = 0; x < POINTS; x++) {
            if (holds(rows[x], y)) {
                points |= bit(x);
            }
        }
        return points;
    }

    public int pairs() {
        if (!path.isJust()) {
            return NO;
        }
        long[] rows = relations.ofPath();
        int count = 0;
        for (int x = 0; x < POINTS; x++) {
            count += Long.bitCount(rows[x]);
        }
        return count;
    }

    /** What has been worked out holds for these edges and this path alone. */
    private void forget() {
        relations.ready = false;
        counts.start = NOWHERE;
    }

    private static boolean isPoint(int x) {
        return x >= 0 && x < POINTS;
    }

    private static boolean isLabel(int label) {
        return label >= 0 && label < LABELS;
    }

    private static long bit(int place) {
        return 1L << place;
    }

    private static boolean holds(long set, int place) {
        return (set >>> place & 1L) != 0L;
    }

    private static long sumOf(long a, long b) {
        long sum = a + b;
        return sum < MOST_TIMES ? sum : MOST_TIMES;
    }

    /** The edges: for each label and each point the set of the points that they lead to. */
    private static final class Graph {
        private final long[][] targets = new long[LABELS][POINTS];
        private int size;

        private int put(int from, int label, int to) {
            if (!isEdge(from, label, to)) {
                return BAD;
            }
            if (holds(targets[label][from], to)) {
                return 0;
            }
            targets[label][from] |= bit(to);
            size++;
            return 1;
        }

        private int remove(int from, int label, int to) {
            if (!isEdge(from, label, to)) {
                return BAD;
            }
            if (!holds(targets[label][from], to)) {
                return 0;
            }
            targets[label][from] &= ~bit(to);
            size--;
            return 1;
        }

        private static boolean isEdge(int from, int label, int to) {
            return isPoint(from) && isLabel(label) && isPoint(to);
        }
    }

    /**
     * The words of the path, and its parts in the order of their first words: so the first part
     * inside a part is always the next one, and only the second one's number has to be kept.
     */
    private static final class Path {
        private final int[] words = new int[MOST_WORDS];
        private final int[] kinds = new int[MOST_PARTS];
        private final int[] labelSets = new int[MOST_PARTS];
        private final int[] seconds = new int[MOST_PARTS];
        private int size;
        private int parts;
        private int fault = FIRST_FAULT;

        private int append(int word) {
            if (size >= MOST_WORDS) {
                return FULL;
            }
            words[size] = word;
            size++;
            readWords();
            return size;
        }

        private int empty() {
            int had = size;
            size = 0;
            readWords();
            return had;
        }

        private boolean isJust() {
            return fault == 0;
        }

        private void readWords() {
            parts = 0;
            int end = readPart(0, 1);
            if (end < 0) {
                fault = end;
            } else {
                fault = end < size ? faultAt(end) : 0;
            }
        }

        /** The place behind the part that begins at this place; or the fault, which is below 0. */
        private int readPart(int place, int depth) {
            if (depth > MOST_DEEP || parts >= MOST_PARTS || !isWithin(place, EDGE, NOT)) {
                return faultAt(place);
            }
            int part = parts;
            int kind = words[place];
            parts++;
            kinds[part] = kind;
            labelSets[part] = 0;
            seconds[part] = part;
            if (kind == EDGE || kind == NOT) {
                return readLabels(part, place + 1);
            }
            int behind = readPart(place + 1, depth + 1);
            if (behind < 0 || (kind != THEN && kind != OR)) {
                return behind;
            }
            seconds[part] = parts;
            return readPart(behind, depth + 1);
        }

        private int readLabels(int part, int place) {
            boolean one = kinds[part] == EDGE;
            if (!isWithin(place, 0, one ? LABELS - 1 : LABEL_SETS - 1)) {
                return faultAt(place);
            }
            int value = words[place];
            labelSets[part] = one ? 1 << value : LABEL_SETS - 1 - value;
            return place + 1;
        }

        private boolean isWithin(int place, int least, int most) {
            return place >= 0 && place < size && words[place] >= least && words[place] <= most;
        }

        private static int faultAt(int place) {
            return FIRST_FAULT - place;
        }
    }

    /** For each part of the path, and each point, the set of the points that the part reaches from it. */
    private static final class Relations {
        private final Graph graph;
        private final Path path;
        private final long[][] partRows = new long[MOST_PARTS][POINTS];
        private boolean ready;

        private Relations(Graph graph, Path path) {
            this.graph = graph;
            this.path = path;
        }

        private long[] ofPath() {
            if (!ready) {
                // From the last part on, each one finds the parts inside it done.
                for (int part = path.parts - 1; part >= 0; part--) {
                    fill(part);
                }
                ready = true;
            }
            return partRows[0];
        }

        private void fill(int part) {
            long[] rows = partRows[part];
            Arrays.fill(rows, 0L);
            int kind = path.kinds[part];
            int first = part + 1;
            int second = path.seconds[part];
            if (kind == EDGE || kind == NOT) {
                addEdges(rows, path.labelSets[part]);
            } else if (first < path.parts && second < path.parts) {
                fillFrom(rows, kind, partRows[first], partRows[second]);
            }
        }

        private static void fillFrom(long[] rows, int kind, long[] first, long[] second) {
            switch (kind) {
                case BACK:
                    addTurned(rows, first);
                    break;
                case THEN:
                    addJoined(rows, first, second);
                    break;
                case OR:
                    add(rows, first);
                    add(rows, second);
                    break;
                case MAYBE:
                    add(rows, first);
                    addStaying(rows);
                    break;
                case ANY:
                    add(rows, first);
                    close(rows);
                    addStaying(rows);
                    break;
                case SOME:
                    add(rows, first);
                    close(rows);
                    break;
                default:
                    break;
            }
        }

        private void addEdges(long[] rows, int labelSet) {
            for (int label = 0; label < LABELS; label++) {
                if (holds(labelSet, label)) {
                    add(rows, graph.targets[label]);
                }
            }
        }

        private static void add(long[] rows, long[] more) {
            for (int x = 0; x < POINTS; x++) {
                rows[x] |= more[x];
            }
        }

        private static void addStaying(long[] rows) {
            for (int x = 0; x < POINTS; x++) {
                rows[x] |= bit(x);
            }
        }

        private static void addTurned(long[] rows, long[] first) {
            for (int x = 0; x < POINTS; x++) {
                long rest = first[x];
                for (int n = 0; n < POINTS && rest != 0L; n++) {
                    rows[Long.numberOfTrailingZeros(rest)] |= bit(x);
                    rest &= rest - 1L;
                }
            }
        }

        private static void addJoined(long[] rows, long[] first, long[] second) {
            for (int x = 0; x < POINTS; x++) {
                long rest = first[x];
                for (int n = 0; n < POINTS && rest != 0L; n++) {
                    rows[x] |= second[Long.numberOfTrailingZeros(rest)];
                    rest &= rest - 1L;
                }
            }
        }

        /** Warshall's way: after the turn of z, ways over the points up to z are known. */
        private static void close(long[] rows) {
            for (int z = 0; z < POINTS; z++) {
                for (int x = 0; x < POINTS; x++) {
                    if (holds(rows[x], z)) {
                        rows[x] |= rows[z];
                    }
                }
            }
        }
    }

    /**
     * How many times the path is found from one point to each other one. A row of times is carried
     * through the parts, so that no part needs its times for all pairs of points.
     */
    private static final class Counts {
        private final Graph graph;
        private final Path path;
        private final Relations relations;
        private final long[] before = new long[POINTS];
        private final long[] after = new long[POINTS];
        private final long[][] between = new long[MOST_DEEP][POINTS];
        private int start = NOWHERE;

        private Counts(Graph graph, Path path, Relations relations) {
            this.graph = graph;
            this.path = path;
            this.relations = relations;
        }

        private long[] from(int x) {
            if (start != x && isPoint(x)) {
                relations.ofPath();
                Arrays.fill(before, 0L);
                Arrays.fill(after, 0L);
                before[x] = 1L;
                carry(0, false, 0, before, after);
                start = x;
            }
            return after;
        }

        /** Adds to the row out what the part, read backwards if so told, makes of the row in. */
        private void carry(int part, boolean back, int depth, long[] in, long[] out) {
            if (depth >= MOST_DEEP || part >= path.parts) {
                return;
            }
            switch (path.kinds[part]) {
                case EDGE:
                case NOT:
                    carryOverEdges(path.labelSets[part], back, in, out);
                    break;
                case BACK:
                    carry(part + 1, !back, depth + 1, in, out);
                    break;
                case THEN:
                    carryOverBoth(part, back, depth, in, out);
                    break;
                case OR:
                    carry(part + 1, back, depth + 1, in, out);
                    carry(path.seconds[part], back, depth + 1, in, out);
                    break;
                default:
                    carryOver(relations.partRows[part], back, in, out);
                    break;
            }
        }

        private void carryOverBoth(int part, boolean back, int depth, long[] in, long[] out) {
            int first = part + 1;
            int second = path.seconds[part];
            long[] middle = between[depth];
            Arrays.fill(middle, 0L);
            carry(back ? second : first, back, depth + 1, in, middle);
            carry(back ? first : second, back, depth + 1, middle, out);
        }

        private void carryOverEdges(int labelSet, boolean back, long[] in, long[] out) {
            for (int label = 0; label < LABELS; label++) {
                if (holds(labelSet, label)) {
                    carryOver(graph.targets[label], back, in, out);
                }
            }
        }

        private static void carryOver(long[] rows, boolean back, long[] in, long[] out) {
            for (int x = 0; x < POINTS; x++) {
                if (back) {
                    out[x] = sumOf(out[x], gather(rows[x], in));
                } else if (in[x] != 0L) {
                    spread(rows[x], in[x], out);
                }
            }
        }

        private static long gather(long points, long[] in) {
            long sum = 0L;
            long rest = points;
            for (int n = 0; n < POINTS && rest != 0L; n++) {
                sum = sumOf(sum, in[Long.numberOfTrailingZeros(rest)]);
                rest &= rest - 1L;
            }
            return sum;
        }

        private static void spread(long points, long count, long[] out) {
            long rest = points;
            for (int n = 0; n < POINTS && rest != 0L; n++) {
                int y = Long.numberOfTrailingZeros(rest);
                out[y] = sumOf(out[y], count);
                rest &= rest - 1L;
            }
        }
    }
}
