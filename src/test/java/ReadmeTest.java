import java.io.IOException;
import java.lang.reflect.InvocationTargetException;
import java.lang.reflect.Method;
import java.lang.reflect.Modifier;
import java.net.URL;
import java.net.URLClassLoader;
import java.nio.file.Files;
import java.nio.file.Path;
import java.util.ArrayList;
import java.util.List;
import java.util.Map;
import java.util.Set;
import java.util.TreeMap;
import java.util.TreeSet;
import java.util.regex.Matcher;
import java.util.regex.Pattern;
import java.util.stream.Stream;
import javax.tools.ToolProvider;

/** README.md: the calls that it shows answer as it says they do, and its tables name what there is. */
public final class ReadmeTest {
    private static final Path README = Path.of("README.md");
    private static final Path TESTS = Path.of("src/test/java");
    private static final Pattern ANSWERED = Pattern.compile("(.*;) *// (-?[0-9]+|throws \\w+)(:.*)?");
    private static final Pattern MAKES_NUMBER = Pattern.compile("int (\\w+) = .*;");
    private static final Pattern CALL = Pattern.compile("books\\.(\\w+)\\(");
    /** A call for each number of the table, the number standing where the N is. */
    private static final Map<String, String> CALL_WITH = Map.ofEntries(
            Map.entry("day", "bind N 1 0 0 1"), Map.entry("age", "bind 0 1 N 0 1"),
            Map.entry("zone", "bind 0 1 0 N 1"), Map.entry("rate", "row 0 0 0 0 N"),
            Map.entry("length", "bind 0 N 0 0 1"), Map.entry("sum", "bind 0 1 0 0 N"),
            Map.entry("loss", "claim 0 0 N"), Map.entry("quota", "quota N"),
            Map.entry("deductible", "terms N 1 1"), Map.entry("limit", "terms 0 N 1"),
            Map.entry("aggregate", "terms 0 1 N"), Map.entry("retention", "layer N 0 0 0"),
            Map.entry("layer", "layer 0 N 0 0"), Map.entry("times", "layer 0 0 N 0"),
            Map.entry("price", "layer 0 0 0 N"));

    private static final Check check = new Check();

    public static void main(String[] args) throws IOException, ReflectiveOperationException {
        List<String> lines = Files.readAllLines(README);
        List<String> code = javaLines(lines);
        everyAnswerIsShown(code);
        everyCallIsShown(code);
        shownCallsAnswerAsSaid(code);
        tableOfCalls(lines);
        tableOfNumbers(lines);
        tableOfTests(lines);
        check.end();
    }

    private static List<String> javaLines(List<String> lines) {
        List<String> code = new ArrayList<>();
        boolean inside = false;
        for (String line : lines) {
            if (line.startsWith("```")) {
                inside = line.equals("```java");
            } else if (inside && !line.isBlank()) {
                code.add(line);
            }
        }
        return code;
    }

    /** So that no call of README.md goes by without being looked at. */
    private static void everyAnswerIsShown(List<String> code) {
        for (String line : code) {
            Matcher call = CALL.matcher(line);
            boolean answers = call.find() && methodOf(call.group(1)).getReturnType() == int.class;
            Matcher shown = ANSWERED.matcher(line);
            boolean isShown = shown.matches();
            boolean isNumber = isShown && !shown.group(2).startsWith("throws");
            check.same(line + ": shows what the call answers", "true", String.valueOf(answers ? isShown : !isNumber));
        }
    }

    private static void everyCallIsShown(List<String> code) {
        Set<String> shown = new TreeSet<>();
        for (String line : code) {
            Matcher call = CALL.matcher(line);
            if (call.find()) {
                shown.add(call.group(1));
            }
        }
        check.same("calls that are shown", face().keySet().toString(), shown.toString());
    }

    private static void shownCallsAnswerAsSaid(List<String> code) throws IOException, ReflectiveOperationException {
        List<String> asked = new ArrayList<>();
        List<String> due = new ArrayList<>();
        for (String line : code) {
            Matcher shown = ANSWERED.matcher(line);
            if (shown.matches()) {
                asked.add(line);
                due.add(shown.group(2));
            }
        }
        List<String> got = new ArrayList<>();
        String end = run(programOf(code), got);
        for (int k = 0; k < due.size(); k++) {
            check.same(asked.get(k), due.get(k), k < got.size() ? got.get(k) : end);
        }
        check.same("README.md's calls, at their end", "no exception", end);
    }

    private static String programOf(List<String> code) {
        StringBuilder text = new StringBuilder("public final class ReadmeCalls {\n"
                + "public static void run(java.util.List<String> answers) {\n");
        for (String line : code) {
            Matcher shown = ANSWERED.matcher(line);
            text.append(shown.matches() ? asked(shown.group(1), shown.group(2)) : line).append('\n');
        }
        return text.append("}\n}\n").toString();
    }

    private static String asked(String statement, String due) {
        Matcher made = MAKES_NUMBER.matcher(statement);
        if (due.startsWith("throws")) {
            return "try { " + statement + " answers.add(\"throws nothing\"); } catch (RuntimeException e) {"
                    + " answers.add(\"throws \" + e.getClass().getSimpleName()); }";
        }
        if (made.matches()) {
            return statement + " answers.add(String.valueOf(" + made.group(1) + "));";
        }
        return "answers.add(String.valueOf(" + statement.substring(0, statement.length() - 1) + "));";
    }

    /** Compiles the program and runs it; its answers come into the list, its end is told. */
    private static String run(String program, List<String> answers) throws IOException, ReflectiveOperationException {
        Path directory = Files.createTempDirectory("readme");
        Path source = directory.resolve("ReadmeCalls.java");
        try {
            Files.writeString(source, program);
            return isCompiled(source) ? play(directory, answers) : "does not compile";
        } finally {
            Files.deleteIfExists(directory.resolve("ReadmeCalls.class"));
            Files.deleteIfExists(source);
            Files.delete(directory);
        }
    }

    private static boolean isCompiled(Path source) {
        return ToolProvider.getSystemJavaCompiler().run(null, null, null, "-d", source.getParent().toString(),
                "-cp", System.getProperty("java.class.path"), source.toString()) == 0;
    }

    private static String play(Path directory, List<String> answers) throws IOException, ReflectiveOperationException {
        try (URLClassLoader loader = new URLClassLoader(new URL[] {directory.toUri().toURL()})) {
            loader.loadClass("ReadmeCalls").getMethod("run", List.class).invoke(null, answers);
            return "no exception";
        } catch (InvocationTargetException e) {
            return e.getCause().toString();
        }
    }

    private static void tableOfCalls(List<String> lines) {
        Map<String, Method> face = face();
        Set<String> named = new TreeSet<>();
        for (String[] row : rowsUnder(lines, "Call")) {
            Matcher call = Pattern.compile("`(\\w+)\\((.*)\\)`").matcher(row[0]);
            check.same(row[0] + " is a call", "true", String.valueOf(call.matches()));
            Method method = methodOf(call.group(1));
            named.add(call.group(1));
            int parameters = call.group(2).isEmpty() ? 0 : call.group(2).split(",").length;
            check.same(row[0] + ", parameters", String.valueOf(method.getParameterCount()), String.valueOf(parameters));
            List<String> thrown = new ArrayList<>();
            for (Class<?> kind : method.getExceptionTypes()) {
                thrown.add(kind.getSimpleName());
            }
            check.same(row[0] + ", exceptions", String.join(", ", thrown), row[2]);
        }
        check.same("calls of the table", face.keySet().toString(), named.toString());
    }

    private static void tableOfNumbers(List<String> lines) {
        Set<String> named = new TreeSet<>();
        for (String[] row : rowsUnder(lines, "Number")) {
            named.add(row[0]);
            int from = Integer.parseInt(row[1]);
            int to = Integer.parseInt(row[2]);
            check.same(row[0] + " " + (from - 1) + " is refused", "IAE", answerWith(row[0], from - 1));
            check.same(row[0] + " " + (to + 1) + " is refused", "IAE", answerWith(row[0], to + 1));
            check.same(row[0] + " " + from + " is refused", "false",
                    String.valueOf(answerWith(row[0], from).endsWith("E")));
            check.same(row[0] + " " + to + " is refused", "false",
                    String.valueOf(answerWith(row[0], to).endsWith("E")));
        }
        check.same("numbers of the table", new TreeSet<>(CALL_WITH.keySet()).toString(), named.toString());
    }

    private static String answerWith(String name, int number) {
        CarrierBooks books = new CarrierBooks();
        books.row(0, 49, 0, 9, 1);
        if (name.equals("loss")) {
            books.bind(0, 1, 0, 0, 1);
        }
        return Call.of(CALL_WITH.get(name).replace("N", String.valueOf(number))).answerOf(books);
    }

    private static void tableOfTests(List<String> lines) throws IOException {
        Set<String> named = new TreeSet<>();
        for (String[] row : rowsUnder(lines, "Test")) {
            named.add(row[0].replace("`", "") + ".java");
        }
        Set<String> there = new TreeSet<>();
        try (Stream<Path> files = Files.list(TESTS)) {
            files.map(file -> file.getFileName().toString()).filter(name -> name.endsWith("Test.java"))
                    .forEach(there::add);
        }
        check.same("tests of the table", there.toString(), named.toString());
    }

    private static List<String[]> rowsUnder(List<String> lines, String head) {
        List<String[]> rows = new ArrayList<>();
        boolean inside = false;
        for (String line : lines) {
            boolean isHead = line.startsWith("| " + head + " |");
            if (inside && line.startsWith("|") && !line.startsWith("| ---")) {
                rows.add(cells(line));
            }
            inside = isHead || inside && line.startsWith("|");
        }
        check.same("table under " + head + " is there", "true", String.valueOf(!rows.isEmpty()));
        return rows;
    }

    private static String[] cells(String line) {
        String[] cells = line.substring(1, line.length() - 1).split("\\|", -1);
        for (int k = 0; k < cells.length; k++) {
            cells[k] = cells[k].trim();
        }
        return cells;
    }

    private static Map<String, Method> face() {
        Map<String, Method> face = new TreeMap<>();
        for (Method method : CarrierBooks.class.getDeclaredMethods()) {
            if (Modifier.isPublic(method.getModifiers())) {
                face.put(method.getName(), method);
            }
        }
        return face;
    }

    private static Method methodOf(String name) {
        Method method = face().get(name);
        if (method == null) {
            throw new AssertionError("README.md names a call that there is not: " + name);
        }
        return method;
    }
}
