import java.io.IOException;
import java.lang.reflect.Method;
import java.lang.reflect.Modifier;
import java.nio.file.Files;
import java.nio.file.Path;
import java.util.ArrayList;
import java.util.List;
import java.util.Map;
import java.util.Set;
import java.util.TreeSet;
import java.util.regex.Matcher;
import java.util.regex.Pattern;
import java.util.stream.Stream;

/** The calls that README.md shows answer as it says; its table and its list of tests are right. */
public final class ReadmeTest {
    private static final Path README = Path.of("README.md");
    private static final Path TESTS = Path.of("src", "test", "java");
    private static final Pattern MADE = Pattern.compile("PathFinder (\\w+) = new PathFinder\\(\\);");
    private static final Pattern CALL = Pattern.compile(
        "(\\w+)\\.(\\w+)\\((-?\\d+(?:, -?\\d+)*)?\\); +// (-?\\d+|[A-Z]+)(?:: \\S.*)?");
    private static final Pattern ROW = Pattern.compile("\\| `(\\d [lmpq]( q)?)` \\| (.*) \\|");
    private static final Pattern FILE = Pattern.compile("`([A-Z]\\w*)`");
    private static final Map<String, Long> CONSTANTS = Map.of(
        "BAD", (long) PathFinder.BAD, "NO", (long) PathFinder.NO, "FULL", (long) PathFinder.FULL);
    private static final int MOST_CALLS = 512;

    public static void main(String[] args) throws IOException, ReflectiveOperationException {
        List<String> lines = Files.readAllLines(README);
        Set<String> shown = new TreeSet<>();
        int blocks = 0;
        for (List<String> block : blocks(lines)) {
            blocks++;
            run(block, shown);
        }
        Due.holds("README.md shows calls", blocks > 0);
        allShown(shown);
        table(lines);
        files(lines);
        Due.end();
    }

    private static List<List<String>> blocks(List<String> lines) {
        List<List<String>> blocks = new ArrayList<>();
        List<String> open = null;
        for (String line : lines) {
            if (open != null && line.equals("```")) {
                open = null;
            } else if (open != null) {
                open.add(line);
            } else if (line.equals("```java")) {
                open = new ArrayList<>();
                blocks.add(open);
            }
        }
        Due.holds("each block of calls ends", open == null);
        return blocks;
    }

    /** The first line makes an object, each other one is a call with its answer behind it. */
    private static void run(List<String> block, Set<String> shown) throws ReflectiveOperationException {
        Matcher made = MADE.matcher(block.isEmpty() ? "" : block.get(0));
        Due.holds("a block begins with a new object: " + block, made.matches());
        Due.holds("a block has at most 512 calls", block.size() <= MOST_CALLS + 1);
        if (!made.matches()) {
            return;
        }
        PathFinder finder = new PathFinder();
        for (String line : block.subList(1, block.size())) {
            Matcher call = CALL.matcher(line);
            boolean understood = call.matches() && call.group(1).equals(made.group(1));
            Due.holds("README.md, a call and its answer: " + line, understood);
            if (understood) {
                shown.add(call.group(2));
                Due.due("README.md, " + line, answer(finder, call.group(2), call.group(3)), said(call.group(4)));
            }
        }
    }

    private static long answer(PathFinder finder, String name, String list) throws ReflectiveOperationException {
        String[] words = list == null ? new String[0] : list.split(", ");
        Class<?>[] types = new Class<?>[words.length];
        Object[] values = new Object[words.length];
        for (int n = 0; n < words.length; n++) {
            types[n] = int.class;
            values[n] = Integer.parseInt(words[n]);
        }
        Method method = PathFinder.class.getMethod(name, types);
        return ((Number) method.invoke(finder, values)).longValue();
    }

    private static long said(String answer) {
        return CONSTANTS.containsKey(answer) ? CONSTANTS.get(answer) : Long.parseLong(answer);
    }

    private static void allShown(Set<String> shown) {
        for (Method method : PathFinder.class.getDeclaredMethods()) {
            if (Modifier.isPublic(method.getModifiers())) {
                Due.holds("README.md shows a call of " + method.getName(), shown.contains(method.getName()));
            }
        }
    }

    /** The table of words says what the document says, in its words. */
    private static void table(List<String> lines) throws IOException {
        String terms = Document.read().sections().getOrDefault("Terms", "");
        int rows = 0;
        for (String line : lines) {
            Matcher row = ROW.matcher(line);
            if (row.matches()) {
                Due.holds("README.md, row " + rows + ": " + line, row.group(1).startsWith(rows + " "));
                Due.holds("the document has " + line, terms.contains(row.group(1) + ": " + row.group(3) + "."));
                rows++;
            }
        }
        Due.due("rows of README.md's table of words", rows, 8);
    }

    private static void files(List<String> lines) throws IOException {
        List<String> part = lines.subList(Math.max(0, lines.indexOf("## Tests")), lines.size());
        Set<String> named = new TreeSet<>();
        Matcher name = FILE.matcher(String.join("\n", part));
        while (name.find()) {
            named.add(name.group(1));
        }
        Set<String> there = new TreeSet<>();
        try (Stream<Path> all = Files.list(TESTS)) {
            all.forEach(file -> there.add(file.getFileName().toString().replace(".java", "")));
        }
        Due.holds("README.md names the tests and what they share, " + there + ": " + named, named.equals(there));
    }
}
