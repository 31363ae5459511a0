import java.util.Arrays;

/** Rows of words for paths, put together from parts. */
final class Words {
    static final int[] NONE = {};

    private Words() {
    }

    static int[] edge(int label) {
        return new int[] {0, label};
    }

    static int[] not(int labels) {
        return new int[] {7, labels};
    }

    /** This word, and the parts behind it. */
    static int[] of(int word, int[]... parts) {
        int[] row = {word};
        for (int[] part : parts) {
            row = join(row, part);
        }
        return row;
    }

    static int[] join(int[] words, int... more) {
        int[] row = Arrays.copyOf(words, words.length + more.length);
        System.arraycopy(more, 0, row, words.length, more.length);
        return row;
    }

    static int[] first(int[] words, int many) {
        return Arrays.copyOf(words, many);
    }

    static int[] changed(int[] words, int place, int word) {
        int[] row = words.clone();
        row[place] = word;
        return row;
    }

    /** The word so often, one in the other, and the part inside: so many levels more. */
    static int[] chain(int word, int often, int[] part) {
        int[] row = new int[often];
        Arrays.fill(row, word);
        return join(row, part);
    }

    /** The part so often, joined by the word 2 or 3, with as few levels as can be. */
    static int[] row(int word, int often, int[] part) {
        if (often == 1) {
            return part;
        }
        return of(word, row(word, often / 2, part), row(word, often - often / 2, part));
    }

    /** Levels of the word 2 or 3 whose first part is the edge, the last one's second part is this. */
    static int[] toTheRight(int word, int levels, int[] last) {
        int[] row = last;
        for (int n = 0; n < levels; n++) {
            row = of(word, edge(0), row);
        }
        return row;
    }

    /** Levels of the word 2 or 3 whose second part is the edge, the last one's first part is this. */
    static int[] toTheLeft(int word, int levels, int[] last) {
        int[] row = last;
        for (int n = 0; n < levels; n++) {
            row = of(word, row, edge(0));
        }
        return row;
    }

    /** 60 words and 40 parts: the longest path that is just. */
    static int[] longest() {
        return of(4, row(2, 20, edge(0)));
    }

    /** A path of so many words (2 .. 60) that is just. */
    static int[] just(int length) {
        int edges = (length + 1) / 3;
        return chain(4, length + 1 - 3 * edges, row(2, edges, edge(0)));
    }

    /** A path of 39 parts or some more (to 44); it is just up to 40, behind them some are too many. */
    static int[] withParts(int parts) {
        return chain(5, parts - 39, row(2, 10, chain(4, 2, edge(0))));
    }
}
