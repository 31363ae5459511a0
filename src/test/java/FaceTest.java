import java.io.IOException;
import java.lang.reflect.Constructor;
import java.lang.reflect.Field;
import java.lang.reflect.Method;
import java.lang.reflect.Modifier;
import java.util.Set;
import java.util.TreeSet;

/** The public face: what the document lists, and no other member that can be seen from outside. */
public final class FaceTest {
    private static final Set<String> METHODS = Set.of(
        "int edge(int,int,int)", "int drop(int,int,int)", "int edges()", "int word(int)", "int clear()",
        "int look()", "long times(int,int)", "int ends(int)", "long reached(int)", "long all(int)",
        "long reaching(int)", "int pairs()");

    public static void main(String[] args) throws IOException {
        Due.due("BAD", PathFinder.BAD, -1);
        Due.due("NO", PathFinder.NO, -2);
        Due.due("FULL", PathFinder.FULL, -3);
        int modifiers = PathFinder.class.getModifiers();
        Due.holds("the class is public and final", Modifier.isPublic(modifiers) && Modifier.isFinal(modifiers));
        fields();
        constructors();
        methods();
        for (Class<?> inside : PathFinder.class.getDeclaredClasses()) {
            int seen = inside.getModifiers();
            Due.holds(inside + " is static and not public",
                Modifier.isStatic(seen) && !Modifier.isPublic(seen) && !Modifier.isProtected(seen));
        }
        asInTheDocument();
        Due.end();
    }

    /** The document's own lines, parameters without their names, are what is asked for here. */
    private static void asInTheDocument() throws IOException {
        Set<String> due = new TreeSet<>(Set.of("final class PathFinder {", "PathFinder()", "}",
            "static final int BAD = -1", "static final int NO = -2", "static final int FULL = -3"));
        due.addAll(METHODS);
        Set<String> lines = new TreeSet<>();
        for (String line : Document.read().face()) {
            lines.add(line.replaceFirst("^public ", "").replaceFirst(";$", "").replaceAll("int \\w+(?=[,)])", "int").replace(", ", ","));
        }
        Due.holds("the document's face " + lines + " is " + due, lines.equals(due));
    }

    private static void fields() {
        Set<String> seen = new TreeSet<>();
        for (Field field : PathFinder.class.getDeclaredFields()) {
            if (!Modifier.isPrivate(field.getModifiers())) {
                seen.add(Modifier.toString(field.getModifiers()) + " " + field.getType() + " " + field.getName());
            }
        }
        Due.holds("the constants " + seen, seen.equals(Set.of(
            "public static final int BAD", "public static final int NO", "public static final int FULL")));
    }

    private static void constructors() {
        Constructor<?>[] all = PathFinder.class.getDeclaredConstructors();
        Due.due("constructors", all.length, 1);
        Due.holds("the constructor is public and takes nothing",
            Modifier.isPublic(all[0].getModifiers()) && all[0].getParameterCount() == 0);
    }

    private static void methods() {
        Set<String> seen = new TreeSet<>();
        for (Method method : PathFinder.class.getDeclaredMethods()) {
            if (Modifier.isPrivate(method.getModifiers())) {
                continue;
            }
            StringBuilder types = new StringBuilder();
            for (Class<?> type : method.getParameterTypes()) {
                types.append(types.length() == 0 ? "" : ",").append(type);
            }
            seen.add(method.getReturnType() + " " + method.getName() + "(" + types + ")");
            Due.holds(method + " is public and no static one", Modifier.isPublic(method.getModifiers())
                && !Modifier.isStatic(method.getModifiers()));
        }
        Due.holds("the methods " + seen, seen.equals(METHODS));
    }
}
