import java.io.IOException;
import java.nio.file.Files;
import java.nio.file.Path;
import java.util.ArrayList;
import java.util.LinkedHashMap;
import java.util.List;
import java.util.Map;
import java.util.regex.Matcher;
import java.util.regex.Pattern;

/** The document itself, ../shared/DOC.md, so that tests can be held against its own words. */
final class Document {
    private static final Path FILE = Path.of("..", "shared", "DOC.md");
    private static final Pattern PROMISE = Pattern.compile("(Promise \\d+): (.*)");

    /** Each section's words, with single spaces; a promise's title stands before its sentences. */
    private final Map<String, String> sections = new LinkedHashMap<>();
    private final List<String> face = new ArrayList<>();

    private Document(List<String> lines) {
        String section = "";
        boolean code = false;
        for (String line : lines) {
            if (line.startsWith("```")) {
                code = !code;
            } else if (code) {
                face.add(line.strip());
            } else if (line.startsWith("#")) {
                Matcher promise = PROMISE.matcher(line.replaceFirst("^#+ ", ""));
                boolean numbered = promise.matches();
                section = numbered ? promise.group(1) : line.replaceFirst("^#+ ", "");
                sections.put(section, numbered ? promise.group(2) : "");
            } else {
                sections.merge(section, line.strip(), (before, more) -> (before + " " + more).strip());
            }
        }
    }

    static Document read() throws IOException {
        return new Document(Files.readAllLines(FILE));
    }

    Map<String, String> sections() {
        return sections;
    }

    /** The lines of the public face, as they stand in the document. */
    List<String> face() {
        return face;
    }
}
