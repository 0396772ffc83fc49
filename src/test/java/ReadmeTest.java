import java.io.IOException;
import java.lang.reflect.Method;
import java.lang.reflect.Modifier;
import java.net.URL;
import java.net.URLClassLoader;
import java.nio.file.Files;
import java.nio.file.Path;
import java.util.ArrayList;
import java.util.List;
import java.util.Set;
import java.util.TreeSet;
import java.util.regex.Matcher;
import java.util.regex.Pattern;
import java.util.stream.Stream;
import javax.tools.JavaCompiler;
import javax.tools.ToolProvider;

/** What README.md says of the use of the class and of its tests is so: its examples are compiled and run. */
public final class ReadmeTest {
    private static final Path README = Path.of("README.md");
    private static final Path TESTS = Path.of("src/test/java");
    private static final Pattern BLOCK = Pattern.compile("(?ms)^```java\n(.*?)^```$");
    private static final Pattern CALL = Pattern.compile("(x\\.(\\w+)\\(.*\\)); +// (\\S+): .+");
    private static final Pattern LISTED = Pattern.compile("(?m)^- ((?:`\\w+Test`(?:, )?)+):");
    private static final Pattern TEST_NAME = Pattern.compile("\\w+Test\\b");

    private static int failures = 0;
    private static final Set<String> shown = new TreeSet<>();

    public static void main(String[] args) throws Exception {
        String readme = Files.readString(README).replace("\r", "");
        String program = programOf(readme);
        everyCallIsShown();
        if (failures == 0) {
            run(program);
        }
        everyTestIsListed(readme);
        System.out.println(failures == 0 ? "README.md is true" : failures + " faults of README.md");
        if (failures != 0) {
            System.exit(1);
        }
    }

    private static void must(boolean isSo, String what) {
        if (!isSo) {
            failures++;
            System.out.println("not so: " + what);
        }
    }

    /** The examples go on with one object, so all of them are one method; a block with a method of its own stays so. */
    private static String programOf(String readme) {
        StringBuilder methods = new StringBuilder();
        StringBuilder calls = new StringBuilder();
        Matcher block = BLOCK.matcher(readme);
        while (block.find()) {
            if (block.group(1).startsWith("static ")) {
                methods.append(block.group(1));
            } else {
                for (String row : block.group(1).split("\n")) {
                    calls.append(statementOf(row)).append('\n');
                }
            }
        }
        return "public final class Example {\n"
                + "static final java.util.List<String> wrong = new java.util.ArrayList<>();\n"
                + "static void due(String call, long got, long want) {\n"
                + "if (got != want) wrong.add(call + \" answers \" + got);\n}\n"
                + methods + "public static java.util.List<String> run() {\n" + calls + "return wrong;\n}\n}\n";
    }

    private static String statementOf(String row) {
        Matcher call = CALL.matcher(row);
        if (call.matches()) {
            shown.add(call.group(2));
            return "due(\"" + row.replace("\\", "\\\\").replace("\"", "\\\"") + "\", " + call.group(1) + ", "
                    + call.group(3) + ");";
        }
        must(!row.startsWith("x."), "a call says what it answers: " + row);
        return row;
    }

    private static void everyCallIsShown() {
        Set<String> face = new TreeSet<>();
        for (Method m : TruthSums.class.getDeclaredMethods()) {
            if (Modifier.isPublic(m.getModifiers())) {
                face.add(m.getName());
            }
        }
        must(shown.equals(face), "the calls shown are " + face + ", not " + shown);
    }

    private static void run(String program) throws Exception {
        JavaCompiler compiler = ToolProvider.getSystemJavaCompiler();
        must(compiler != null, "java comes with javac");
        Path made = Files.createTempDirectory("readme");
        try {
            Path source = made.resolve("Example.java");
            Files.writeString(source, program);
            String classes = System.getProperty("java.class.path");
            boolean compiles = compiler != null
                    && compiler.run(null, null, null, "-d", made.toString(), "-cp", classes, source.toString()) == 0;
            must(compiles, "the examples compile");
            if (compiles) {
                answers(made);
            }
        } finally {
            remove(made);
        }
    }

    private static void answers(Path made) throws Exception {
        try (URLClassLoader loader = new URLClassLoader(new URL[] {made.toUri().toURL()})) {
            Object wrong = loader.loadClass("Example").getMethod("run").invoke(null);
            for (Object row : (List<?>) wrong) {
                must(false, row.toString());
            }
        }
    }

    private static void remove(Path directory) throws IOException {
        List<Path> files = new ArrayList<>();
        try (Stream<Path> found = Files.list(directory)) {
            found.forEach(files::add);
        }
        for (Path file : files) {
            Files.delete(file);
        }
        Files.delete(directory);
    }

    private static void everyTestIsListed(String readme) throws IOException {
        Set<String> there = new TreeSet<>();
        try (Stream<Path> found = Files.list(TESTS)) {
            found.forEach(file -> there.add(file.getFileName().toString().replace(".java", "")));
        }
        Set<String> listed = new TreeSet<>();
        Matcher row = LISTED.matcher(readme);
        while (row.find()) {
            Matcher name = TEST_NAME.matcher(row.group(1));
            while (name.find()) {
                listed.add(name.group());
            }
        }
        must(listed.equals(there), "the tests are " + there + ", not " + listed);
        must(Files.isExecutable(Path.of(".ci/run")), ".ci/run can be run");
    }
}
