import java.io.IOException;
import java.lang.reflect.Method;
import java.lang.reflect.Modifier;
import java.lang.reflect.Parameter;
import java.net.URL;
import java.net.URLClassLoader;
import java.nio.file.Files;
import java.nio.file.Path;
import java.util.ArrayList;
import java.util.List;
import java.util.Map;
import java.util.Set;
import java.util.TreeMap;
import java.util.TreeSet;
import java.util.regex.Matcher;
import java.util.regex.Pattern;
import java.util.stream.Stream;
import javax.tools.ToolProvider;

/** What README.md says of using the class, taken from its own text. */
public final class ReadmeTest {
    private static final Path OUT = Path.of("build/readme");
    private static final Pattern WITH_ANSWER =
            Pattern.compile("(int \\w+ = )?(flow\\.(\\w+)\\([^;]*\\));\\s*// (-?\\d+)(?![\\w.]).*");
    private static final Check CHECK = new Check();

    public static void main(String[] args) throws ReflectiveOperationException, IOException {
        List<String> readme = Files.readAllLines(Path.of("README.md"));
        examples(javaLines(readme));
        everyCallHasAnExample(javaLines(readme));
        List<String[]> calls = rows(readme, "call");
        theTableHasTheWholeFace(calls);
        answersAndRefusalsOfTheTable(calls);
        everyTestIsInItsTable(rows(readme, "test"));
        CHECK.holds(".ci/run can be run", Files.isExecutable(Path.of(".ci/run")));
        CHECK.end();
    }

    /** Called by the code of the examples, for each line that names an answer. */
    public static int due(String line, int got, int want) {
        CHECK.due("README.md: " + line, got, want);
        return got;
    }

    private static List<String> javaLines(List<String> readme) {
        List<String> lines = new ArrayList<>();
        boolean inside = false;
        for (String line : readme) {
            if (line.startsWith("```")) {
                inside = line.equals("```java");
            } else if (inside) {
                lines.add(line);
            }
        }
        return lines;
    }

    private static void examples(List<String> lines) throws ReflectiveOperationException, IOException {
        StringBuilder code = new StringBuilder("public final class Readme {\n    public static void run() {\n");
        for (String line : lines) {
            Matcher matcher = WITH_ANSWER.matcher(line);
            boolean answers = matcher.matches();
            CHECK.holds("a comment begins with an answer: " + line, answers || !line.contains("//"));
            CHECK.holds("a call's line names its answer: " + line,
                    answers || !line.startsWith("flow.") && !line.startsWith("int "));
            code.append(answers ? checked(matcher) : line).append('\n');
        }
        compiled(code.append("    }\n}\n").toString()).getMethod("run").invoke(null);
    }

    private static String checked(Matcher line) {
        String kept = line.group(1) == null ? "" : line.group(1);
        String text = line.group().replace("\\", "\\\\").replace("\"", "\\\"");
        return kept + "ReadmeTest.due(\"" + text + "\", " + line.group(2) + ", " + line.group(4) + ");";
    }

    private static Class<?> compiled(String code) throws ReflectiveOperationException, IOException {
        Files.createDirectories(OUT);
        Path file = OUT.resolve("Readme.java");
        Files.writeString(file, code);
        int failed = ToolProvider.getSystemJavaCompiler().run(null, null, null,
                "-cp", System.getProperty("java.class.path"), "-d", OUT.toString(), file.toString());
        CHECK.due("javac of the examples", failed, 0);
        try (URLClassLoader loader = new URLClassLoader(new URL[] {OUT.toUri().toURL()})) {
            return loader.loadClass("Readme");
        }
    }

    private static void everyCallHasAnExample(List<String> lines) {
        Set<String> seen = new TreeSet<>();
        for (String line : lines) {
            Matcher matcher = WITH_ANSWER.matcher(line);
            if (matcher.matches()) {
                seen.add(matcher.group(3));
            }
        }
        CHECK.holds("the examples have all calls: " + seen, seen.equals(face().keySet()));
    }

    /** The cells of the table whose first column has this head, without the head. */
    private static List<String[]> rows(List<String> readme, String head) {
        List<String[]> rows = new ArrayList<>();
        boolean inside = false;
        for (String line : readme) {
            inside = line.startsWith("| " + head + " |") || inside && line.startsWith("|");
            if (inside && line.startsWith("| `")) {
                rows.add(line.substring(2).split("\\s*\\|\\s*"));
            }
        }
        return rows;
    }

    private static Map<String, Method> face() {
        Map<String, Method> face = new TreeMap<>();
        for (Method method : GreatestFlow.class.getDeclaredMethods()) {
            if (Modifier.isPublic(method.getModifiers())) {
                face.put(method.getName(), method);
            }
        }
        return face;
    }

    private static void theTableHasTheWholeFace(List<String[]> rows) {
        Set<String> named = new TreeSet<>();
        for (String[] row : rows) {
            String name = nameOf(row);
            named.add(name);
            Method method = face().get(name);
            CHECK.holds("the parameters of " + row[0],
                    method != null && parametersOf(row).matches(typesOf(method)));
        }
        CHECK.holds("the table has all calls: " + named, named.equals(face().keySet()));
        CHECK.due("the rows of the table", rows.size(), named.size());
    }

    private static String nameOf(String[] row) {
        return row[0].substring(1, row[0].indexOf('('));
    }

    private static String parametersOf(String[] row) {
        return row[0].substring(row[0].indexOf('(') + 1, row[0].indexOf(')'));
    }

    private static String typesOf(Method method) {
        List<String> types = new ArrayList<>();
        for (Parameter parameter : method.getParameters()) {
            types.add(parameter.getType().getName() + " \\w+");
        }
        return String.join(", ", types);
    }

    /** Each call with many arguments, right and wrong ones, in graphs with and without room and a flow. */
    private static void answersAndRefusalsOfTheTable(List<String[]> rows) throws ReflectiveOperationException {
        for (String[] row : rows) {
            Method method = face().get(nameOf(row));
            if (method != null) {
                Set<Integer> answers = new TreeSet<>();
                for (int graph = 0; graph < 4; graph++) {
                    ask(method, new Object[method.getParameterCount()], 0, graph, answers);
                }
                Set<Integer> refusals = new TreeSet<>(answers);
                refusals.removeIf(answer -> answer >= 0);
                answers.removeIf(answer -> answer < 0);
                CHECK.holds("the refusals of " + row[0] + " are " + refusals,
                        refusals.equals(numbersIn(row.length > 3 ? row[3] : "")));
                Set<Integer> named = numbersIn(row[2].contains("from 0 on") ? "" : row[2]);
                CHECK.holds("the answers of " + row[0] + " are " + answers, named.isEmpty() || answers.equals(named));
            }
        }
    }

    private static void ask(Method method, Object[] arguments, int at, int graph, Set<Integer> answers)
            throws ReflectiveOperationException {
        if (at == arguments.length) {
            answers.add((Integer) method.invoke(graph(graph), arguments));
            return;
        }
        int[] tried = {-2, -1, 0, 1, 2, 3, 1001, 100001};
        for (int one : tried) {
            arguments[at] = one;
            ask(method, arguments, at + 1, graph, answers);
        }
    }

    /** 0 is empty, 1 has a FLOW, 2 has none, 3 has no room. */
    private static GreatestFlow graph(int number) {
        if (number == 0) {
            return new GreatestFlow();
        }
        // One more SINK helps at NODE 1, one more SOURCE at NODE 3.
        GreatestFlow x = Build.nodes(1, 0, 2, 0);
        Build.arcs(x, Build.arc(0, 1, 0, 9), Build.arc(1, 2, 0, 8), Build.arc(0, 3, 0, 1), Build.arc(3, 2, 0, 5));
        if (number == 2) {
            x.change(3, 2, 5);
        }
        if (number == 3) {
            fill(x);
        }
        return x;
    }

    private static void fill(GreatestFlow x) {
        for (int nodes = 4; nodes < 10; nodes++) {
            x.node();
        }
        for (int arcs = 4; arcs < 40; arcs++) {
            x.arc(4, 5, 0, 1);
        }
    }

    private static Set<Integer> numbersIn(String cell) {
        Set<Integer> numbers = new TreeSet<>();
        Matcher matcher = Pattern.compile("-?\\d+").matcher(cell);
        while (matcher.find()) {
            numbers.add(Integer.valueOf(matcher.group()));
        }
        return numbers;
    }

    private static void everyTestIsInItsTable(List<String[]> rows) throws IOException {
        Set<String> named = new TreeSet<>();
        for (String[] row : rows) {
            named.add(row[0].replace("`", "") + ".java");
        }
        Set<String> there = new TreeSet<>();
        try (Stream<Path> files = Files.list(Path.of("src/test/java"))) {
            files.map(file -> file.getFileName().toString()).filter(name -> name.endsWith("Test.java"))
                    .forEach(there::add);
        }
        CHECK.holds("the table has all tests: " + there, named.equals(there));
    }
}
