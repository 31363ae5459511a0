import java.io.IOException;
import java.nio.file.Files;
import java.nio.file.Path;
import java.util.ArrayList;
import java.util.Arrays;
import java.util.List;
import java.util.Map;
import java.util.regex.Matcher;
import java.util.regex.Pattern;
import java.util.stream.Stream;

/**
 * No sentence of the document is without a test: the tests name the sentences that they test, and
 * together these hold each word of the document. What a test names, stands there in these words.
 */
public final class DocumentTest {
    private static final Path TESTS = Path.of("src", "test", "java");
    private static final Pattern NAMED = Pattern.compile(
        "(?:Due\\.sentence|new Named)\\(\\s*\"([^\"]*)\",\\s*\"([^\"]*)\"");
    private static final Pattern METHOD = Pattern.compile("(?:^(\\w+) )?`(?:\\w+ \\1|PathFinder)\\(.*?\\)`");
    private static final Pattern SIGNATURE = Pattern.compile("`([^`]*)`");

    private record Sentence(String test, String where, String words) {
    }

    public static void main(String[] args) throws IOException {
        Document document = Document.read();
        List<Sentence> named = allNamed();
        order(document);
        standThere(document, named);
        eachWord(document, named);
        signatures(document);
        Due.end();
    }

    /** The sections that the tests know: another one, or one less, would need other tests. */
    private static void order(Document document) {
        List<String> due = new ArrayList<>(List.of("PathFinder", "What it is", "The public face", "Terms"));
        for (int n = 1; n <= 13; n++) {
            due.add("Promise " + n);
        }
        due.add("Not promised");
        List<String> found = new ArrayList<>(document.sections().keySet());
        Due.holds("the document's sections are " + due + ": " + found, found.equals(due));
    }

    private static List<Sentence> allNamed() throws IOException {
        List<Path> files;
        try (Stream<Path> all = Files.list(TESTS)) {
            files = all.filter(file -> file.toString().endsWith("Test.java")).sorted().toList();
        }
        List<Sentence> named = new ArrayList<>();
        for (Path file : files) {
            Matcher found = NAMED.matcher(Files.readString(file));
            while (found.find()) {
                named.add(new Sentence(file.getFileName().toString(), found.group(1), found.group(2)));
            }
        }
        return named;
    }

    private static void standThere(Document document, List<Sentence> named) {
        for (Sentence sentence : named) {
            String section = document.sections().getOrDefault(sentence.where(), "");
            Due.holds(sentence.test() + " names words of the document: " + sentence.where() + ", \""
                + sentence.words() + "\"", !sentence.words().isEmpty() && section.contains(sentence.words()));
        }
    }

    private static void eachWord(Document document, List<Sentence> named) {
        for (Map.Entry<String, String> section : document.sections().entrySet()) {
            String rest = withoutNamed(section.getKey(), section.getValue(), named);
            Due.holds("each word of \"" + section.getKey() + "\" is in a sentence that a test names; these are not: "
                + rest.replaceAll(" +", " "), rest.codePoints().noneMatch(Character::isLetterOrDigit));
        }
    }

    /** The section with blanks for all that is named; a method's title and signature are FaceTest's. */
    private static String withoutNamed(String where, String text, List<Sentence> named) {
        char[] rest = text.toCharArray();
        Matcher method = METHOD.matcher(text);
        if (method.find()) {
            Arrays.fill(rest, method.start(), method.end(), ' ');
        }
        for (Sentence sentence : named) {
            if (sentence.where().equals(where) && !sentence.words().isEmpty()) {
                blank(rest, text, sentence.words());
            }
        }
        return new String(rest);
    }

    private static void blank(char[] rest, String text, String words) {
        for (int at = text.indexOf(words); at >= 0; at = text.indexOf(words, at + 1)) {
            Arrays.fill(rest, at, at + words.length(), ' ');
        }
    }

    /** Each promise is of the member of the face that its title names. */
    private static void signatures(Document document) {
        List<String> face = new ArrayList<>(document.face());
        for (int n = 1; n <= 13; n++) {
            String text = document.sections().getOrDefault("Promise " + n, "");
            Matcher signature = SIGNATURE.matcher(text);
            boolean found = signature.find();
            Due.holds("promise " + n + " has a signature", found);
            if (found) {
                String line = "public " + signature.group(1) + ";";
                Due.holds("the face has " + line + " of promise " + n, face.remove(line));
            }
        }
        face.removeIf(line -> line.contains("class") || line.contains("static final") || line.equals("}"));
        Due.holds("each member of the face has a promise; these have none: " + face, face.isEmpty());
    }
}
