import java.io.IOException;
import java.lang.reflect.Field;
import java.lang.reflect.Method;
import java.lang.reflect.Modifier;
import java.nio.file.Files;
import java.nio.file.Path;
import java.util.ArrayList;
import java.util.Arrays;
import java.util.List;
import java.util.Map;
import java.util.Set;
import java.util.TreeMap;
import java.util.TreeSet;
import java.util.regex.Matcher;
import java.util.regex.Pattern;
import java.util.stream.Stream;

/** The rules of LANGUAGE.md, as far as they can be seen in the text and in the classes of the program. */
public final class FormTest {
    private static final Path PROGRAM = Path.of("src/main/java/CarrierBooks.java");
    private static final Set<String> THROWN = Set.of("IllegalStateException", "IllegalArgumentException",
            "UnsupportedOperationException", "NoSuchElementException");
    private static final Set<String> LIBRARY = Set.of("Math.min", "Math.max", "Math.floorDiv");
    private static final String[] UNUSED = {"package", "try", "catch", "finally", "synchronized", "assert", "instanceof",
        "null", "double", "float", "String", "static {", "->", "::", "while", "do", "volatile", "native", "%", "@"};
    private static final Set<Class<?>> TYPES = Set.of(int.class, boolean.class, void.class, int[].class);
    private static final Pattern HEAD = Pattern.compile("( +)(?:public|private) (?:static )?(?:\\w+ )?(\\w+)\\(.*");

    private static final Check check = new Check();

    private static String text;
    private static List<String> lines;

    public static void main(String[] args) throws IOException {
        // Words in a comment are no part of the program.
        text = Files.readString(PROGRAM).replaceAll("(?s)/\\*.*?\\*/", "").replaceAll("//.*", "");
        lines = text.lines().toList();
        oneFile();
        library();
        exceptions();
        constructors();
        List<Class<?>> classes = new ArrayList<>(List.of(CarrierBooks.class.getDeclaredClasses()));
        classes.add(CarrierBooks.class);
        none("rule 11: classes, more than 12", classes.size() > 12, classes.size());
        for (Class<?> c : classes) {
            fields(c, classes);
            methods(c, classes);
        }
        methodsStayShort();
        callsStayFlat();
        loopsHaveAnEnd();
        check.end();
    }

    private static void none(String what, boolean isBroken, Object got) {
        check.same(what, "none", isBroken ? String.valueOf(got) : "none");
    }

    private static void oneFile() throws IOException {
        try (Stream<Path> files = Files.walk(Path.of("src/main"))) {
            List<Path> found = files.filter(Files::isRegularFile).toList();
            check.same("one file", List.of(PROGRAM).toString(), found.toString());
        }
    }

    private static void library() {
        check.same("rule 4: imports", "[import java.util.NoSuchElementException;]",
                lines.stream().filter(line -> line.startsWith("import")).toList().toString());
        Matcher used = Pattern.compile("\\b([A-Z]\\w*[a-z]\\w*)\\.(\\w+)").matcher(text);
        while (used.find()) {
            none("rule 4: outside the library", !LIBRARY.contains(used.group()), used.group());
        }
        for (String word : UNUSED) {
            String bound = Character.isLetter(word.charAt(0)) ? "\\b" : "";
            none("rules 2, 3, 6, 10: not in the program", Pattern.compile(bound + Pattern.quote(word) + bound)
                    .matcher(text).find(), word);
        }
    }

    private static void exceptions() {
        Matcher thrown = Pattern.compile("\\bthrow\\b([^;]*);").matcher(text);
        while (thrown.find()) {
            Matcher made = Pattern.compile(" new (\\w+)\\(\\)").matcher(thrown.group(1));
            none("rule 6: thrown", !made.matches() || !THROWN.contains(made.group(1)), thrown.group(1));
        }
    }

    /** Rules 6 and 12: a constructor throws nothing and hands out nothing of what it makes. */
    private static void constructors() {
        String body = bodies().get("CarrierBooks");
        none("constructor: hands out", Pattern.compile("\\([^)]").matcher(body).find() || body.contains("this"), body);
        none("constructor: throws", body.contains("throw"), body);
        none("constructors of classes inside", Pattern.compile("private [A-Z]\\w*\\(").matcher(text).find(), "one");
    }

    private static void fields(Class<?> c, List<Class<?>> classes) {
        int own = 0;
        for (Field f : c.getDeclaredFields()) {
            String name = c.getSimpleName() + "." + f.getName();
            boolean isStatic = Modifier.isStatic(f.getModifiers());
            own += isStatic ? 0 : 1;
            none("rule 5: static but no constant of int", isStatic
                    && !(Modifier.isFinal(f.getModifiers()) && f.getType() == int.class), name);
            none("rule 3: of another type", !isType(f.getType(), classes), name);
            none("rule 1: not private", !Modifier.isPrivate(f.getModifiers()), name);
        }
        none("rule 11: more than 20 fields", own > 20, c);
    }

    private static void methods(Class<?> c, List<Class<?>> classes) {
        Set<String> face = new TreeSet<>();
        for (Method m : CarrierBooks.class.getDeclaredMethods()) {
            if (Modifier.isPublic(m.getModifiers())) {
                face.add(m.getName());
            }
        }
        none("rule 2: not static", c != CarrierBooks.class && !Modifier.isStatic(c.getModifiers()), c);
        for (Method m : c.getDeclaredMethods()) {
            String name = c.getSimpleName() + "." + m.getName();
            none("rule 11: more than seven parameters", m.getParameterCount() > 7, name);
            none("rule 1: private with the name of a public one", Modifier.isPrivate(m.getModifiers())
                    && face.contains(m.getName()), name);
            none("rule 3: of another type", !isType(m.getReturnType(), classes)
                    || !Arrays.stream(m.getParameterTypes()).allMatch(type -> isType(type, classes)), name);
        }
    }

    private static boolean isType(Class<?> type, List<Class<?>> classes) {
        return TYPES.contains(type) || classes.contains(type);
    }

    private static void methodsStayShort() {
        bodies().forEach((name, body) ->
                none("rule 11: more than sixty lines", body.lines().count() > 60, name));
    }

    /** The text of each method, by its name: from its head to the brace that stands below it. */
    private static Map<String, String> bodies() {
        Map<String, String> bodies = new TreeMap<>();
        for (int k = 0; k < lines.size(); k++) {
            Matcher head = HEAD.matcher(lines.get(k));
            if (!head.matches()) {
                continue;
            }
            int end = k;
            while (!lines.get(end).equals(head.group(1) + "}")) {
                end++;
            }
            String before = bodies.put(head.group(2), String.join("\n", lines.subList(k + 1, end)));
            check.same("methods named " + head.group(2) + " before", "null", String.valueOf(before));
        }
        return bodies;
    }

    /** Rules 8 and 11: no recursion, and calls at most eight deep. */
    private static void callsStayFlat() {
        Map<String, String> bodies = bodies();
        for (Method m : CarrierBooks.class.getDeclaredMethods()) {
            int depth = depth(m.getName(), bodies, 1);
            none("rule 11: calls more than eight deep", depth > 8, m.getName() + " " + depth);
        }
    }

    private static int depth(String name, Map<String, String> bodies, int level) {
        int deepest = level;
        if (level > 20) {
            return level;
        }
        Matcher call = Pattern.compile("(new )?\\b(\\w+)\\(").matcher(bodies.get(name));
        while (call.find()) {
            if (call.group(1) == null && bodies.containsKey(call.group(2))) {
                deepest = Math.max(deepest, depth(call.group(2), bodies, level + 1));
            }
        }
        return deepest;
    }

    /** Rule 9: each loop counts a number of its own up to a bound. */
    private static void loopsHaveAnEnd() {
        Matcher loop = Pattern.compile("\\bfor \\((.*)\\) \\{").matcher(text);
        Pattern counted = Pattern.compile("int (\\w+) = [^;]*; \\1 <=? [^;]*; \\1\\+\\+");
        while (loop.find()) {
            none("rule 9: not counted", !counted.matcher(loop.group(1)).matches(), loop.group(1));
        }
    }
}
