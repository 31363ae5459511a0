/** What the tests share: it tells each answer that is not the one due, and how the test ended. */
final class Due {
    private static int asked = 0;
    private static int wrong = 0;
    private static int sentences = 0;
    private static String sentence = "";

    private Due() {
    }

    /** What follows tests this sentence of the document; wrong answers are told with it. */
    static void sentence(String where, String words) {
        sentences++;
        sentence = where + ", \"" + words + "\": ";
    }

    static void due(String call, long got, long want) {
        asked++;
        if (got != want) {
            wrong++;
            System.out.println(sentence + call + " answered " + got + ", due is " + want);
        }
    }

    static void holds(String what, boolean really) {
        asked++;
        if (!really) {
            wrong++;
            System.out.println(sentence + "does not hold: " + what);
        }
    }

    /** Puts these words in place of the path that the object has. */
    static void path(PathFinder finder, int... words) {
        finder.clear();
        for (int word : words) {
            finder.word(word);
        }
    }

    static void end() {
        String tested = sentences == 0 ? "" : sentences + " sentences, ";
        System.out.println(tested + (wrong == 0 ? asked + " answers are as due" : wrong + " of " + asked + " answers are not as due"));
        System.exit(wrong == 0 ? 0 : 1);
    }
}
