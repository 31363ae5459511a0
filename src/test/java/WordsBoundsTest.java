import java.util.Arrays;

/** The boundary cases of promises 5 to 7 (word, clear, look), a test for each sentence. */
public final class WordsBoundsTest {
    private static final int[] ANY_WORDS = {0, 7, 8, -1, 255, 256, Integer.MIN_VALUE, Integer.MAX_VALUE};

    /** The paths come on one object as long as it has calls left, so that each stands behind others. */
    private static Run run = new Run();

    public static void main(String[] args) {
        howManyWords();
        fullPath();
        noWords();
        howManyItHad();
        justOne();
        noSuchWord();
        noSuchLabel();
        noSuchWordAnywhere();
        partTooMany();
        partTooDeep();
        wordTooMany();
        endWhenSomeLack();
        theFirstOne();
        Due.end();
    }

    private static void howManyWords() {
        Due.sentence("Promise 5", "A word more of the path: how many.");
        for (int word : ANY_WORDS) {
            Run one = new Run();
            for (int n = 1; n <= 60; n++) {
                Due.due("word " + word, one.word(word), n);
            }
        }
        Run mixed = new Run();
        for (int n = 1; n <= 60; n++) {
            Due.due("words", mixed.word(ANY_WORDS[n % ANY_WORDS.length]), n);
            mixed.edge(n, 0, n);
            mixed.look();
            mixed.times(n, n);
        }
    }

    private static void fullPath() {
        Due.sentence("Promise 5", "FULL.");
        for (int[] words : new int[][] {Words.longest(), new int[60], Words.chain(4, 60, Words.NONE)}) {
            Run one = new Run();
            one.edge(63, 0, 63);
            one.words(Words.first(words, 59));
            Due.due("the 60th word", one.word(words[59]), 60);
            int look = one.look();
            long times = one.times(63, 63);
            for (int word : ANY_WORDS) {
                Due.due("a 61st word " + word, one.word(word), PathFinder.FULL);
                Due.due("look behind FULL", one.look(), look);
                Due.due("times behind FULL", one.times(63, 63), times);
            }
            Due.due("clear behind FULL", one.clear(), 60);
            Due.due("word behind clear", one.word(0), 1);
            Due.due("another word behind clear", one.word(0), 2);
            Due.due("look behind clear", one.look(), 0);
            Due.due("times behind clear", one.times(63, 63), 1);
        }
    }

    private static void noWords() {
        Due.sentence("Promise 6", "The path has no words");
        for (int many : new int[] {0, 1, 2, 59, 60}) {
            Run one = new Run();
            one.edge(0, 0, 63);
            one.words(Words.first(Words.longest(), many));
            one.clear();
            Due.due("look behind clear of " + many, one.look(), -100);
            Due.due("times behind clear of " + many, one.times(0, 63), PathFinder.NO);
            Due.due("reached behind clear of " + many, one.reached(0), 0);
            Due.due("pairs behind clear of " + many, one.pairs(), PathFinder.NO);
            Due.due("edges behind clear of " + many, one.edges(), 1);
            Due.due("word behind clear of " + many, one.word(0), 1);
            Due.due("look, no word of the old path is left", one.look(), -101);
            one.word(0);
            Due.due("times of the new path", one.times(0, 63), 1);
        }
    }

    private static void howManyItHad() {
        Due.sentence("Promise 6", "how many it had");
        for (int many = 0; many <= 60; many++) {
            Run one = new Run();
            one.words(new int[many]);
            Due.due("clear of " + many, one.clear(), many);
            Due.due("clear again", one.clear(), 0);
        }
        Run one = new Run();
        one.words(new int[60]);
        one.word(0);
        one.word(0);
        Due.due("clear of 60 behind FULL", one.clear(), 60);
        Due.due("clear of none", one.clear(), 0);
        one.words(Integer.MIN_VALUE, Integer.MAX_VALUE);
        Due.due("clear of words that can't stand", one.clear(), 2);
    }

    private static void justOne() {
        Due.sentence("Promise 7", "Whether the path is just one: 0");
        look(-100);
        for (int length = 2; length <= 60; length++) {
            look(0, Words.just(length));
        }
        for (int label : Bounds.LAST_LABELS) {
            look(0, Words.edge(label));
        }
        for (int m : Bounds.LAST_MASKS) {
            look(0, Words.not(m));
        }
        for (int word : new int[] {1, 4, 5, 6}) {
            look(0, Words.of(word, Words.not(255)));
        }
        for (int word : new int[] {2, 3}) {
            look(0, Words.of(word, Words.edge(7), Words.not(255)));
        }
        look(0, Words.withParts(40));
        look(0, Words.chain(1, 11, Words.edge(7)));
    }

    private static void noSuchWord() {
        Due.sentence("Promise 7", "no such word or label");
        for (int word : Bounds.NO_WORDS) {
            look(-100, word);
            look(-100, word, 0, 0);
            look(-101, 1, word);
            look(-101, 2, word, 0, 0, 0);
            look(-103, 2, 0, 0, word);
            look(-103, 3, 7, 255, word, 0);
            look(-111, Words.chain(4, 11, new int[] {word, 0}));
        }
        for (int word : Bounds.LAST_WORDS) {
            look(0, word, 0);
            look(0, 3, word, 7, word, 7);
            look(0, Words.chain(4, 11, new int[] {word, 7}));
        }
    }

    private static void noSuchLabel() {
        Due.sentence("Promise 7", "no such word or label");
        for (int label : Bounds.NO_LABELS) {
            look(-101, 0, label);
            look(-102, 6, 0, label);
            look(-102, 2, 0, label, 0, 0);
            look(-104, 2, 0, 0, 0, label);
        }
        for (int m : Bounds.NO_MASKS) {
            look(-101, 7, m);
            look(-102, 6, 7, m);
            look(-102, 3, 7, m, 7, 0);
            look(-104, 3, 7, 0, 7, m);
        }
        look(0, 7, 8);
        look(0, 7, 254);
        look(-101, 0, 255);
    }

    private static void noSuchWordAnywhere() {
        Due.sentence("Promise 7", "or -100 less the place of the first word that can't stand there");
        int[] words = Words.longest();
        for (int place = 0; place < 60; place++) {
            look(-100 - place, Words.changed(words, place, 8));
            look(-100 - place, Words.changed(words, place, -1));
            look(-100 - place, Words.changed(words, place, Integer.MIN_VALUE));
            look(-100 - place, Words.changed(words, place, Integer.MAX_VALUE));
            look(-100 - place, Words.join(Words.first(words, place), Integer.MAX_VALUE));
        }
    }

    private static void partTooMany() {
        Due.sentence("Promise 7", "a part too many");
        look(0, Words.withParts(40));
        look(-149, Words.withParts(41));
        look(-149, Words.withParts(42));
        look(-149, Words.withParts(43));
        look(-149, Words.first(Words.withParts(41), 50));
        look(-149, Words.changed(Words.withParts(41), 49, 8));
        look(-149, Words.changed(Words.withParts(41), 50, 8));
        look(-148, Words.changed(Words.withParts(41), 48, 8));
        // The 41st part is of each kind once.
        for (int word = 0; word < 8; word++) {
            look(-149, Words.join(Words.first(Words.withParts(41), 49), word, 0, 0, 0, 0));
        }
        // Twenty edges and twenty words before them: the 41st part would stand at the 61st word.
        int[] lacking = Words.first(Words.row(3, 21, Words.edge(0)), 60);
        look(-160, lacking);
        // The last place where it can stand is that of the 60th word.
        int[] tooLong = Words.of(3, Words.row(3, 19, Words.edge(0)), Words.chain(4, 2, Words.edge(0)));
        look(-159, Words.first(tooLong, 60));
    }

    private static void partTooDeep() {
        Due.sentence("Promise 7", "a part too many or too deep");
        for (int word : new int[] {1, 4, 5, 6}) {
            look(0, Words.chain(word, 11, Words.edge(7)));
            look(-112, Words.chain(word, 12, Words.edge(7)));
            look(-112, Words.chain(word, 13, Words.edge(7)));
            look(-112, Words.chain(word, 60, Words.NONE));
            look(-111, Words.chain(word, 11, Words.NONE));
            look(-112, Words.chain(word, 12, Words.NONE));
        }
        for (int word : new int[] {2, 3}) {
            look(0, Words.toTheLeft(word, 11, Words.not(0)));
            look(-112, Words.toTheLeft(word, 12, Words.not(0)));
            look(0, Words.toTheRight(word, 11, Words.not(0)));
            look(-134, Words.toTheRight(word, 12, Words.not(0)));
            look(-112, Words.chain(word, 60, Words.NONE));
        }
        for (int word = 0; word < 8; word++) {
            look(-112, Words.chain(1, 12, new int[] {word, 0, 0, 0, 0}));
        }
        // Behind a part that is not deep, and as the 40th part.
        int[] broad = Words.row(2, 14, Words.edge(0));
        look(0, Words.of(2, broad, Words.chain(5, 10, Words.edge(0))));
        look(-153, Words.of(2, broad, Words.chain(5, 11, Words.edge(0))));
        look(0, Words.of(2, Words.chain(5, 10, Words.edge(0)), broad));
        look(-112, Words.of(2, Words.chain(5, 11, Words.edge(0)), broad));
    }

    private static void wordTooMany() {
        Due.sentence("Promise 7", "a word too many");
        for (int length = 2; length < 60; length++) {
            for (int word : new int[] {0, 8, Integer.MIN_VALUE, Integer.MAX_VALUE}) {
                look(-100 - length, Words.join(Words.just(length), word));
            }
        }
        look(-102, Words.join(Words.edge(0), new int[58]));
        look(-102, Words.join(Words.edge(7), 0, 7));
        look(-159, Words.join(Words.just(59), 7));
    }

    private static void endWhenSomeLack() {
        Due.sentence("Promise 7", "or of its end, when some lack");
        for (int length = 0; length < 60; length++) {
            look(-100 - length, Words.first(Words.longest(), length));
        }
        for (int word = 0; word < 8; word++) {
            look(-101, word);
        }
        look(-103, 2, 0, 0);
        look(-103, 3, 7, 255);
        look(-104, 2, 0, 0, 0);
        look(-104, 3, 0, 0, 7);
        look(-160, Words.first(Words.row(2, 21, Words.edge(7)), 60));
    }

    private static void theFirstOne() {
        Due.sentence("Promise 7", "the first word that can't stand there");
        look(-100, 8, 8, 8);
        look(-101, 0, 8, 8);
        look(-101, 5, 9, 0, 0, 0);
        look(-102, 0, 0, 0, 0);
        look(-102, 2, 0, -1, 0);
        look(-112, Words.chain(4, 12, new int[] {8, 8}));
        look(-111, Words.chain(4, 11, new int[] {8, 8}));
        // What has been told of a word stays, whatever comes behind it.
        Run one = new Run();
        one.words(2, 0, 9);
        for (int n = 3; n < 60; n++) {
            Due.due("look, the third word can't stand", one.look(), -102);
            one.word(ANY_WORDS[n % ANY_WORDS.length]);
        }
        Due.due("look of 60 words", one.look(), -102);
        Due.due("a 61st word", one.word(0), PathFinder.FULL);
        Due.due("look behind FULL", one.look(), -102);
    }

    private static void look(int want, int... words) {
        if (run.callsLeft() < words.length + 8) {
            run = new Run();
        }
        run.path(words);
        String told = Arrays.toString(words);
        Due.due("look of " + told, run.look(), want);
        if (want != 0) {
            Due.due("pairs of " + told, run.pairs(), PathFinder.NO);
        }
    }
}
