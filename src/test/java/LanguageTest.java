import java.io.IOException;
import java.lang.reflect.Array;
import java.lang.reflect.Constructor;
import java.lang.reflect.Field;
import java.lang.reflect.Method;
import java.lang.reflect.Modifier;
import java.nio.file.Files;
import java.nio.file.Path;
import java.util.ArrayDeque;
import java.util.ArrayList;
import java.util.Collections;
import java.util.Deque;
import java.util.IdentityHashMap;
import java.util.List;
import java.util.Set;
import java.util.TreeSet;
import java.util.regex.Matcher;
import java.util.regex.Pattern;

/**
 * The rules of ../shared/LANGUAGE.md that can be seen from the source's words and from the class's
 * members. It is stricter than they are where the class needs less than they leave.
 */
public final class LanguageTest {
    private static final Path SOURCE = Path.of("src", "main", "java", "PathFinder.java");

    private static final Set<String> NOT_OF_IT = Set.of(
        "package", "protected", "throw", "throws", "try", "catch", "finally", "synchronized", "assert", "native",
        "volatile", "transient", "strictfp", "double", "float", "Object", "var", "yield", "instanceof");
    private static final Set<String> LIBRARY_CALLS = Set.of(
        "Arrays.fill", "Long.bitCount", "Long.numberOfTrailingZeros");

    private static final int MOST_PARAMETERS = 7;
    private static final int MOST_LINES = 60;
    private static final int MOST_CLASSES = 12;
    private static final int MOST_FIELDS = 20;
    private static final int MOST_THINGS = 100;
    private static final int MOST_ELEMENTS = 10_000;

    public static void main(String[] args) throws IOException, ReflectiveOperationException {
        String source = withoutComments(Files.readString(SOURCE));
        List<Class<?>> classes = classes();
        words(source);
        names(source, classes);
        library(source);
        loops(source);
        newThings(source);
        lengths(source);
        members(classes);
        room();
        Due.end();
    }

    private static String withoutComments(String source) {
        return source.replaceAll("(?s)/\\*.*?\\*/", "").replaceAll("//[^\n]*", "");
    }

    private static List<Class<?>> classes() {
        List<Class<?>> classes = new ArrayList<>(List.of(PathFinder.class.getDeclaredClasses()));
        classes.add(PathFinder.class);
        return classes;
    }

    private static List<String> found(String source, String pattern) {
        List<String> found = new ArrayList<>();
        Matcher matcher = Pattern.compile(pattern).matcher(source);
        while (matcher.find()) {
            found.add(matcher.group());
        }
        return found;
    }

    private static void words(String source) {
        for (String word : found(source, "\\b[a-zA-Z]\\w*")) {
            if (NOT_OF_IT.contains(word)) {
                Due.holds("rules 1, 3, 6: no " + word, false);
            }
        }
        for (String sign : List.of("->", "::", "\"", "@", "static {")) {
            Due.holds("rules 2, 5, 10: no " + sign, !source.contains(sign));
        }
        Due.holds("characters are of the plain ones", source.chars().allMatch(c -> c == '\n' || (c >= ' ' && c < 127)));
    }

    /** Names of classes, which alone begin with a capital and go on with a small letter. */
    private static void names(String source, List<Class<?>> classes) {
        Set<String> known = new TreeSet<>(Set.of("Arrays", "Long"));
        for (Class<?> one : classes) {
            known.add(one.getSimpleName());
        }
        for (String name : found(source, "\\b[A-Z][a-z]\\w*")) {
            Due.holds("rules 3, 4, 13: no " + name, known.contains(name));
        }
        for (String line : found(source, "\\bimport [^;]*")) {
            Due.holds("rule 4: no " + line, line.equals("import java.util.Arrays"));
        }
        Due.holds("rule 11: at most some twelve classes", classes.size() <= MOST_CLASSES);
    }

    private static void library(String source) {
        for (String call : found(source, "\\b(?:Arrays|Long)\\.\\w+")) {
            Due.holds("rule 4: no " + call, LIBRARY_CALLS.contains(call));
        }
    }

    /** Each loop counts against a bound; there is none without a counter. */
    private static void loops(String source) {
        for (String loop : found(source, "\\b(?:while|do)\\b")) {
            Due.holds("rule 9: no " + loop, false);
        }
        for (String head : found(source, "\\bfor \\(.*")) {
            Due.holds("rule 9, a counter and its bound: " + head, head.matches(
                "for \\(int (\\w+) = 0; \\1 < [A-Z]+( && rest != 0L)?; \\1\\+\\+\\) \\{"
                + "|for \\(int (\\w+) = [\\w.]+ - 1; \\3 >= 0; \\3--\\) \\{"));
        }
    }

    /** README.md: all rows are made in the constructor, calls make no objects. */
    private static void newThings(String source) {
        for (String line : found(source, ".*\\bnew\\b.*")) {
            Due.holds("rule 12, a field's value: " + line.strip(),
                line.matches(" {8}private final \\S+ \\w+ = new .*;|( {8})(graph|path|relations|counts) = new .*;"));
        }
        for (String call : found(source, "\\.clone\\(|copyOf\\w*\\(")) {
            Due.holds("rule 12: no " + call, false);
        }
    }

    private static void lengths(String source) {
        int methods = 0;
        for (String method : found(source, "(?m)^( {4}| {8})\\w[^;=\n]*\\) \\{\n(?s:.*?)\n\\1\\}$")) {
            methods++;
            Due.holds("rule 11, a short method: " + method.lines().findFirst().orElse("").strip(),
                method.lines().count() <= MOST_LINES);
        }
        Due.holds("methods are found in the source: " + methods, methods > 12);
    }

    private static void members(List<Class<?>> classes) {
        Set<String> open = new TreeSet<>();
        for (Method method : PathFinder.class.getDeclaredMethods()) {
            if (Modifier.isPublic(method.getModifiers())) {
                open.add(method.getName());
            }
        }
        for (Class<?> one : classes) {
            boolean inside = one != PathFinder.class;
            Due.holds("rule 2: " + one + " is static", !inside || Modifier.isStatic(one.getModifiers()));
            for (Method method : one.getDeclaredMethods()) {
                Due.holds("rule 1: the name of " + method,
                    Modifier.isPublic(method.getModifiers()) || !open.contains(method.getName()));
                Due.holds("rule 11: the parameters of " + method, method.getParameterCount() <= MOST_PARAMETERS);
            }
            for (Constructor<?> constructor : one.getDeclaredConstructors()) {
                Due.holds("rule 11: the parameters of " + constructor, constructor.getParameterCount() <= MOST_PARAMETERS);
            }
            fields(one);
        }
    }

    private static void fields(Class<?> one) {
        int own = 0;
        for (Field field : one.getDeclaredFields()) {
            if (Modifier.isStatic(field.getModifiers())) {
                Due.holds("rule 5: " + field + " is a constant", Modifier.isFinal(field.getModifiers())
                    && (field.getType() == int.class || field.getType() == long.class));
            } else {
                own++;
            }
        }
        Due.holds("rule 11: the fields of " + one, own <= MOST_FIELDS);
    }

    /** An object's room, from its constructor on, as calls make nothing more. */
    private static void room() throws ReflectiveOperationException {
        Set<Object> seen = Collections.newSetFromMap(new IdentityHashMap<>());
        Deque<Object> open = new ArrayDeque<>(List.of(new PathFinder()));
        long elements = 0;
        while (!open.isEmpty()) {
            Object thing = open.pop();
            if (!seen.add(thing)) {
                continue;
            }
            if (thing.getClass().isArray()) {
                elements += Array.getLength(thing);
                for (int n = 0; n < Array.getLength(thing); n++) {
                    keep(open, Array.get(thing, n));
                }
            } else {
                elements += thing.getClass().getDeclaredFields().length;
                for (Field field : thing.getClass().getDeclaredFields()) {
                    field.setAccessible(true);
                    keep(open, Modifier.isStatic(field.getModifiers()) ? null : field.get(thing));
                }
            }
        }
        Due.holds("rule 12: objects and arrays of one object: " + seen.size(), seen.size() <= MOST_THINGS);
        Due.holds("rule 12: their fields and elements: " + elements, elements <= MOST_ELEMENTS);
    }

    private static void keep(Deque<Object> open, Object thing) {
        if (thing != null && !(thing instanceof Number) && !(thing instanceof Boolean)) {
            open.push(thing);
        }
    }
}
