import java.io.ByteArrayOutputStream;
import java.lang.reflect.Method;
import java.lang.reflect.Modifier;
import java.net.URL;
import java.net.URLClassLoader;
import java.nio.file.Files;
import java.nio.file.Path;
import java.util.ArrayList;
import java.util.Comparator;
import java.util.List;
import java.util.regex.Matcher;
import java.util.regex.Pattern;
import java.util.stream.Stream;
import javax.tools.ToolProvider;

/** What README.md shows: its run of calls is compiled as it stands there, and each answer compared with the one told. */
final class ReadmeTest {
    private static final Pattern BLOCK = Pattern.compile("(?ms)^```java\\R(.*?)^```$");
    private static final Pattern CALL = Pattern.compile("^(house\\.\\w+\\(.*\\));\\s+// (throws \\w+|[-.0-9]+)(: .+)?$");
    private static final String NAME = "ReadmeRun";

    private final String readme;
    private final List<String> calls = new ArrayList<>();
    private final List<String> due = new ArrayList<>();

    private ReadmeTest(String readme) {
        this.readme = readme;
    }

    public static void main(String[] args) throws Exception {
        ReadmeTest test = new ReadmeTest(Files.readString(Path.of("README.md")));
        test.runOfCalls();
        test.namesOfTheFace();
        test.namesOfTheTests();
        Check.end();
    }

    private void runOfCalls() throws Exception {
        Matcher blocks = BLOCK.matcher(readme);
        Check.same("README.md shows a helper", blocks.find() ? 1 : 0, 1);
        String helper = blocks.group(1);
        Check.same("README.md shows a run of calls", blocks.find() ? 1 : 0, 1);
        String run = blocks.group(1);
        Check.same("README.md shows nothing else", blocks.find() ? 1 : 0, 0);
        List<?> answers = answersOf(programOf(helper, run));
        Check.same("answers of the run", answers.size(), due.size());
        for (int i = 0; i < Math.min(answers.size(), due.size()); i++) {
            Check.same("README.md: " + calls.get(i), String.valueOf(answers.get(i)), due.get(i));
        }
        Check.same("the run is short", calls.size() <= 100 ? 1 : 0, 1);
    }

    /** The run as it stands in README.md, but that each answer is kept. */
    private String programOf(String helper, String run) {
        StringBuilder program = new StringBuilder("import java.nio.ByteBuffer;\n"
                + "import java.nio.charset.StandardCharsets;\n"
                + "import java.util.ArrayList;\n"
                + "import java.util.List;\n"
                + "public final class " + NAME + " {\n" + helper
                + "public static List<String> answers() {\nList<String> answers = new ArrayList<>();\n");
        for (String line : run.split("\\R")) {
            program.append(line.startsWith("house.") ? keeping(line) : line).append('\n');
        }
        return program.append("return answers;\n}\n}\n").toString();
    }

    private String keeping(String line) {
        Matcher call = CALL.matcher(line);
        Check.same("README.md tells the answer: " + line, call.matches() ? 1 : 0, 1);
        if (!call.matches()) {
            return line;
        }
        calls.add(call.group(1));
        due.add(call.group(2));
        return "try { answers.add(String.valueOf(" + call.group(1) + ")); }"
                + " catch (RuntimeException e) { answers.add(\"throws \" + e.getClass().getSimpleName()); }";
    }

    private static List<?> answersOf(String program) throws Exception {
        Path directory = Files.createTempDirectory("readme");
        try {
            Path source = Files.writeString(directory.resolve(NAME + ".java"), program);
            ByteArrayOutputStream said = new ByteArrayOutputStream();
            int failed = ToolProvider.getSystemJavaCompiler().run(null, said, said, "-Xlint:all", "-cp",
                    System.getProperty("java.class.path"), "-d", directory.toString(), source.toString());
            Check.same("README.md compiles, javac says '" + said + "'", failed == 0 && said.size() == 0 ? 1 : 0, 1);
            return failed == 0 ? loadedAndRun(directory) : List.of();
        } finally {
            remove(directory);
        }
    }

    private static List<?> loadedAndRun(Path directory) throws Exception {
        URL[] places = {directory.toUri().toURL()};
        try (URLClassLoader loader = new URLClassLoader(places, ReadmeTest.class.getClassLoader())) {
            return (List<?>) loader.loadClass(NAME).getMethod("answers").invoke(null);
        }
    }

    private static void remove(Path directory) throws Exception {
        try (Stream<Path> files = Files.walk(directory)) {
            for (Path file : files.sorted(Comparator.reverseOrder()).toList()) {
                Files.delete(file);
            }
        }
    }

    /** Each call stands in the list of calls, with as many arguments as it has, and in the order of the need. */
    private void namesOfTheFace() {
        int runAt = readme.indexOf("### A run of calls");
        Check.same("README.md has a run of calls", runAt >= 0 ? 1 : 0, 1);
        String list = readme.substring(0, Math.max(runAt, 0));
        for (Method method : LossHouse.class.getDeclaredMethods()) {
            if (Modifier.isPublic(method.getModifiers())) {
                Matcher told = Pattern.compile("`" + method.getName() + "\\(([^)]*)\\)`").matcher(list);
                boolean isTold = told.find();
                Check.same("README.md tells of " + method.getName(), isTold ? 1 : 0, 1);
                String arguments = isTold ? told.group(1) : "";
                int count = arguments.isEmpty() ? 0 : arguments.split(", ").length;
                Check.same("arguments of " + method.getName(), count, method.getParameterCount());
            }
        }
        int last = 0;
        for (String name : List.of("feed(", "trim(", "teach(", "errorAt(", "open(", "nextYear(", "triangle(", "would(")) {
            int at = list.indexOf("`" + name);
            Check.same("README.md tells of " + name + ") in its turn", at > last ? 1 : 0, 1);
            last = at;
        }
    }

    private void namesOfTheTests() throws Exception {
        Check.same("README.md tells of .ci/run", readme.contains("`.ci/run`") ? 1 : 0, 1);
        try (Stream<Path> files = Files.list(Path.of("src/test/java"))) {
            for (Path file : files.toList()) {
                String name = file.getFileName().toString().replace(".java", "");
                Check.same("README.md tells of " + name, readme.contains("`" + name + "`") ? 1 : 0, 1);
            }
        }
    }
}
