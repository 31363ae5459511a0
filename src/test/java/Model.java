import java.math.BigInteger;
import java.util.ArrayList;
import java.util.List;

/** The document's face over Meaning: what an object must answer, call by call. */
final class Model {
    private static final int BAD = -1;
    private static final int NO = -2;
    private static final int FULL = -3;

    private final boolean[][][] edges = new boolean[64][8][64];
    private final List<Integer> words = new ArrayList<>();
    private BigInteger[][] table = null;

    int edge(int from, int label, int to) {
        return change(from, label, to, true);
    }

    int drop(int from, int label, int to) {
        return change(from, label, to, false);
    }

    private int change(int from, int label, int to, boolean there) {
        if (noPoint(from) || label < 0 || label > 7 || noPoint(to)) {
            return BAD;
        }
        if (edges[from][label][to] == there) {
            return 0;
        }
        edges[from][label][to] = there;
        table = null;
        return 1;
    }

    int edges() {
        int count = 0;
        for (boolean[][] ofPoint : edges) {
            for (boolean[] ofLabel : ofPoint) {
                for (boolean there : ofLabel) {
                    count += there ? 1 : 0;
                }
            }
        }
        return count;
    }

    int word(int v) {
        if (words.size() == 60) {
            return FULL;
        }
        words.add(v);
        table = null;
        return words.size();
    }

    int clear() {
        int had = words.size();
        words.clear();
        table = null;
        return had;
    }

    int look() {
        return Meaning.look(row());
    }

    long times(int x, int y) {
        if (noPoint(x) || noPoint(y)) {
            return BAD;
        }
        return look() != 0 ? NO : Meaning.cut(table()[x][y]);
    }

    int ends(int x) {
        if (noPoint(x)) {
            return BAD;
        }
        return look() != 0 ? NO : Long.bitCount(reached(x));
    }

    long reached(int x) {
        if (look() != 0) {
            return 0;
        }
        if (noPoint(x)) {
            return BAD;
        }
        long points = 0;
        for (int y = 0; y < 64; y++) {
            points |= table()[x][y].signum() != 0 ? 1L << y : 0;
        }
        return points;
    }

    long all(int x) {
        if (noPoint(x)) {
            return BAD;
        }
        if (look() != 0) {
            return NO;
        }
        BigInteger sum = BigInteger.ZERO;
        for (BigInteger times : table()[x]) {
            sum = sum.add(times);
        }
        return Meaning.cut(sum);
    }

    long reaching(int y) {
        if (look() != 0 || noPoint(y)) {
            return 0;
        }
        long points = 0;
        for (int x = 0; x < 64; x++) {
            points |= table()[x][y].signum() != 0 ? 1L << x : 0;
        }
        return points;
    }

    int pairs() {
        if (look() != 0) {
            return NO;
        }
        int count = 0;
        for (int x = 0; x < 64; x++) {
            count += Long.bitCount(reached(x));
        }
        return count;
    }

    private BigInteger[][] table() {
        if (table == null) {
            table = Meaning.times(edges, row());
        }
        return table;
    }

    private int[] row() {
        int[] row = new int[words.size()];
        for (int n = 0; n < row.length; n++) {
            row[n] = words.get(n);
        }
        return row;
    }

    private static boolean noPoint(int x) {
        return x < 0 || x > 63;
    }
}
