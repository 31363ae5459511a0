import java.util.Arrays;
import java.util.Random;

/** Promises 5 to 7: word, clear, look. */
public final class WordsTest {
    public static void main(String[] args) {
        countsWords();
        anyIntIsAWord();
        wholePaths();
        faults();
        labelsAndMasks();
        depth();
        parts();
        fullPaths();
        againstTheMeaning();
        Due.end();
    }

    private static void countsWords() {
        PathFinder finder = new PathFinder();
        for (int n = 1; n <= 60; n++) {
            Due.due("word() number " + n, finder.word(4), n);
        }
        Due.due("word() number 61", finder.word(4), PathFinder.FULL);
        Due.due("word() number 62", finder.word(0), PathFinder.FULL);
        Due.due("clear() of 60", finder.clear(), 60);
        Due.due("clear() of none", finder.clear(), 0);
        Due.due("look() after clear()", finder.look(), -100);
        Due.due("word() after clear()", finder.word(0), 1);
        Due.due("clear() of one", finder.clear(), 1);
    }

    private static void anyIntIsAWord() {
        PathFinder finder = new PathFinder();
        Due.due("word(MIN)", finder.word(Integer.MIN_VALUE), 1);
        Due.due("word(MAX)", finder.word(Integer.MAX_VALUE), 2);
        Due.due("word(-1)", finder.word(-1), 3);
        Due.due("clear() of such", finder.clear(), 3);
    }

    private static void wholePaths() {
        look(0, 0, 0);
        look(0, 0, 7);
        look(0, 7, 0);
        look(0, 7, 255);
        for (int kind : new int[] {1, 4, 5, 6}) {
            look(0, kind, 0, 3);
        }
        look(0, 2, 0, 1, 0, 2);
        look(0, 3, 7, 200, 0, 2);
        look(0, 2, 3, 0, 0, 0, 1, 5, 7, 3);
    }

    private static void faults() {
        look(-100);
        look(-100, 8);
        look(-100, -1);
        look(-100, Integer.MIN_VALUE);
        look(-100, Integer.MAX_VALUE, 0);
        look(-101, 0);
        look(-101, 7);
        look(-101, 5);
        look(-101, 5, 8, 0);
        look(-102, 5, 0);
        look(-101, 2);
        look(-103, 2, 0, 0);
        look(-104, 2, 0, 0, 0);
        look(-103, 2, 0, 0, 9, 0);
        look(-103, 3, 7, 0, -1);
        look(-102, 0, 0, 0);
        look(-102, 0, 0, 99, 8);
        look(-105, 2, 0, 0, 0, 1, 0, 1);
        look(-102, 7, 255, 1);
    }

    private static void labelsAndMasks() {
        for (int value = -3; value < 260; value++) {
            look(value >= 0 && value <= 7 ? 0 : -101, 0, value);
            look(value >= 0 && value <= 255 ? 0 : -101, 7, value);
        }
        look(-101, 0, Integer.MAX_VALUE);
        look(-101, 7, Integer.MIN_VALUE);
    }

    private static void depth() {
        for (int kind : new int[] {1, 4, 5, 6}) {
            look(0, chain(kind, 11));
            look(-112, chain(kind, 12));
        }
        look(-111, Arrays.copyOf(chain(4, 11), 11));
        look(-112, Arrays.copyOf(chain(4, 12), 12));
        look(-101, 0, 13);
        int[] firstDeep = new int[36];
        Arrays.fill(firstDeep, 0, 12, 2);
        look(-112, firstDeep);
        int[] lastDeep = new int[38];
        for (int n = 0; n < 12; n++) {
            lastDeep[3 * n] = 3;
        }
        look(-134, lastDeep);
        int[] lastJust = new int[35];
        for (int n = 0; n < 11; n++) {
            lastJust[3 * n] = 3;
        }
        look(0, lastJust);
    }

    /** Ten "2" and eleven edges are 21 parts in 32 words; each word 4 makes one part more. */
    private static void parts() {
        look(0, withParts(39));
        look(0, withParts(40));
        look(-150, withParts(41));
        look(-149, withParts(42));
        look(-150, Arrays.copyOf(withParts(41), 50));
        look(-149, Arrays.copyOf(withParts(40), 49));
    }

    private static int[] withParts(int parts) {
        int fours = parts - 21;
        int[] words = new int[32 + fours];
        int at = 0;
        for (int n = 0; n < 10; n++) {
            words[at++] = 2;
            int here = Math.min(3, fours);
            for (int k = 0; k < here; k++) {
                words[at++] = 4;
            }
            fours -= here;
            at += 2;
        }
        for (int k = 0; k < fours; k++) {
            words[at++] = 4;
        }
        return words;
    }

    private static void fullPaths() {
        PathFinder finder = new PathFinder();
        Due.path(finder, withParts(40));
        int had = withParts(40).length;
        for (int n = had; n < 60; n++) {
            finder.word(0);
        }
        Due.due("look() of 60 words, some too many", finder.look(), -100 - had);
        Due.due("word() on it", finder.word(0), PathFinder.FULL);
        Due.due("look() after FULL", finder.look(), -100 - had);
        Due.path(finder, 0, 7);
        Due.due("look() of a short path after a long one", finder.look(), 0);
        finder.word(0);
        Due.due("look() after one word more", finder.look(), -102);
        int[] just = sixty();
        Due.path(finder, just);
        Due.due("word() after 60 just ones", finder.word(0), PathFinder.FULL);
        Due.due("look() of 60 just words", finder.look(), 0);
        Due.due("clear() of 60 just words", finder.clear(), 60);
    }

    /** 19 words "2" in a tree five or six deep, its 20 edges, and one 4: 60 words, 40 parts. */
    private static int[] sixty() {
        int[] words = new int[60];
        words[0] = 4;
        int end = tree(words, 1, 20);
        Due.due("words of the tree", end, 60);
        return words;
    }

    private static int tree(int[] words, int at, int leaves) {
        if (leaves == 1) {
            return at + 2;
        }
        words[at] = 2;
        int behind = tree(words, at + 1, leaves / 2);
        return tree(words, behind, leaves - leaves / 2);
    }

    private static void againstTheMeaning() {
        Random random = new Random(7);
        for (int run = 0; run < 20000; run++) {
            int[] words = new int[random.nextInt(61)];
            int bound = random.nextInt(4) == 0 ? 10 : 8;
            for (int n = 0; n < words.length; n++) {
                words[n] = random.nextInt(bound) - (bound == 10 ? 1 : 0);
            }
            look(Meaning.look(words), words);
        }
    }

    private static int[] chain(int kind, int length) {
        int[] words = new int[length + 2];
        Arrays.fill(words, 0, length, kind);
        return words;
    }

    private static void look(int want, int... words) {
        PathFinder finder = new PathFinder();
        Due.path(finder, words);
        Due.due("look() of " + Arrays.toString(words), finder.look(), want);
        if (want != 0) {
            Due.due("pairs() of " + Arrays.toString(words), finder.pairs(), PathFinder.NO);
        }
    }
}
