import java.math.BigInteger;
import java.util.ArrayDeque;
import java.util.Deque;

/**
 * The document's "Terms" taken literally: full tables of unbounded numbers, cut to 10^15 at the
 * end alone. It shares no line with PathFinder, so that both can be held against each other.
 */
final class Meaning {
    static final int POINTS = 64;
    static final BigInteger MOST = BigInteger.TEN.pow(15);

    private static final int LABEL = -1;
    private static final int MASK = -2;

    private final boolean[][][] edges;
    private final int[] words;
    private int next = 0;

    private Meaning(boolean[][][] edges, int[] words) {
        this.edges = edges;
        this.words = words;
    }

    /** What look() must answer: the awaited things are kept on a stack, a part as its depth. */
    static int look(int[] words) {
        Deque<Integer> awaited = new ArrayDeque<>();
        awaited.push(1);
        int parts = 0;
        for (int place = 0; place < words.length; place++) {
            int word = words[place];
            if (awaited.isEmpty()) {
                return -100 - place;
            }
            int thing = awaited.pop();
            if (thing == LABEL || thing == MASK) {
                if (word < 0 || word > (thing == LABEL ? 7 : 255)) {
                    return -100 - place;
                }
                continue;
            }
            parts++;
            if (word < 0 || word > 7 || thing > 12 || parts > 40) {
                return -100 - place;
            }
            if (word == 0 || word == 7) {
                awaited.push(word == 0 ? LABEL : MASK);
            } else {
                awaited.push(thing + 1);
                if (word == 2 || word == 3) {
                    awaited.push(thing + 1);
                }
            }
        }
        return awaited.isEmpty() ? 0 : -100 - words.length;
    }

    /** The times for all pairs of points, for a path that is just; edges by [from][label][to]. */
    static BigInteger[][] times(boolean[][][] edges, int[] words) {
        return new Meaning(edges, words).part();
    }

    static long cut(BigInteger number) {
        return number.min(MOST).longValueExact();
    }

    private BigInteger[][] part() {
        int kind = words[next++];
        switch (kind) {
            case 0:
                return edgesWith(1 << words[next++]);
            case 7:
                return edgesWith(~words[next++]);
            case 1:
                return turned(part());
            case 2:
                return product(part(), part());
            case 3:
                return sum(part(), part());
            default:
                return ways(part(), kind);
        }
    }

    private BigInteger[][] edgesWith(int labels) {
        BigInteger[][] table = empty();
        for (int x = 0; x < POINTS; x++) {
            for (int label = 0; label < 8; label++) {
                for (int y = 0; y < POINTS; y++) {
                    if ((labels >> label & 1) != 0 && edges[x][label][y]) {
                        table[x][y] = table[x][y].add(BigInteger.ONE);
                    }
                }
            }
        }
        return table;
    }

    private static BigInteger[][] turned(BigInteger[][] p) {
        BigInteger[][] table = empty();
        for (int x = 0; x < POINTS; x++) {
            for (int y = 0; y < POINTS; y++) {
                table[x][y] = p[y][x];
            }
        }
        return table;
    }

    private static BigInteger[][] product(BigInteger[][] p, BigInteger[][] q) {
        BigInteger[][] table = empty();
        for (int x = 0; x < POINTS; x++) {
            for (int z = 0; z < POINTS; z++) {
                for (int y = 0; p[x][z].signum() != 0 && y < POINTS; y++) {
                    if (q[z][y].signum() != 0) {
                        table[x][y] = table[x][y].add(p[x][z].multiply(q[z][y]));
                    }
                }
            }
        }
        return table;
    }

    private static BigInteger[][] sum(BigInteger[][] p, BigInteger[][] q) {
        BigInteger[][] table = empty();
        for (int x = 0; x < POINTS; x++) {
            for (int y = 0; y < POINTS; y++) {
                table[x][y] = p[x][y].add(q[x][y]);
            }
        }
        return table;
    }

    /** Kinds 4, 5 and 6: a search from each point, by one step of p or by as many as one likes. */
    private static BigInteger[][] ways(BigInteger[][] p, int kind) {
        BigInteger[][] table = empty();
        for (int x = 0; x < POINTS; x++) {
            boolean[] seen = new boolean[POINTS];
            Deque<Integer> open = new ArrayDeque<>();
            open.push(x);
            while (!open.isEmpty()) {
                int z = open.pop();
                for (int y = 0; y < POINTS; y++) {
                    if (p[z][y].signum() != 0 && !seen[y]) {
                        seen[y] = true;
                        if (kind != 4) {
                            open.push(y);
                        }
                    }
                }
            }
            if (kind != 6) {
                seen[x] = true;
            }
            for (int y = 0; y < POINTS; y++) {
                table[x][y] = seen[y] ? BigInteger.ONE : BigInteger.ZERO;
            }
        }
        return table;
    }

    private static BigInteger[][] empty() {
        BigInteger[][] table = new BigInteger[POINTS][POINTS];
        for (BigInteger[] row : table) {
            java.util.Arrays.fill(row, BigInteger.ZERO);
        }
        return table;
    }
}
