import java.io.ByteArrayOutputStream;
import java.io.IOException;
import java.io.PrintStream;
import java.lang.reflect.Method;
import java.lang.reflect.Modifier;
import java.net.URL;
import java.net.URLClassLoader;
import java.nio.file.Files;
import java.nio.file.Path;
import java.util.ArrayList;
import java.util.List;
import java.util.TreeSet;
import java.util.regex.Matcher;
import java.util.regex.Pattern;
import java.util.stream.Stream;
import javax.tools.JavaCompiler;
import javax.tools.ToolProvider;

/** README.md: its program compiles as it stands and prints what its comments say, and its tables leave nothing out. */
public final class ReadmeTest {
    private static final Checks checks = new Checks("ReadmeTest");

    public static void main(String[] args) throws Exception {
        String page = Files.readString(Path.of("README.md"));
        String program = programOf(page);
        List<String> want = commentsOf(program);
        List<String> got = run(program);
        checks.due("there is a program that prints", true, () -> want.size() > 20);
        checks.due("lines printed", want.size(), got::size);
        for (int line = 0; line < want.size() && line < got.size(); line++) {
            int each = line;
            checks.due("line printed " + line, want.get(line), () -> got.get(each));
        }
        checks.due("calls", callsOfTheClass(), () -> callsOf(page));
        checks.due("tests", testsThere(), () -> testsOf(page));
        checks.end();
    }

    private static String programOf(String page) {
        Matcher block = Pattern.compile("```java\n(.*?)```", Pattern.DOTALL).matcher(page);
        return block.find() ? block.group(1) : "";
    }

    /** What stands in the comments behind the lines that print, up to a colon. */
    private static List<String> commentsOf(String program) {
        List<String> comments = new ArrayList<>();
        for (String line : program.lines().toList()) {
            if (line.contains("System.out.println(")) {
                int comment = line.lastIndexOf("// ");
                checks.due("says what it prints: " + line.strip(), true, () -> comment > 0);
                comments.add(line.substring(comment + 3).split(":")[0].strip());
            }
        }
        return comments;
    }

    private static List<String> run(String program) throws Exception {
        Path out = Files.createTempDirectory("readme");
        PrintStream usual = System.out;
        ByteArrayOutputStream printed = new ByteArrayOutputStream();
        try {
            compile(program, out);
            System.setOut(new PrintStream(printed, true));
            call(out);
        } finally {
            System.setOut(usual);
            remove(out);
        }
        return printed.toString().lines().toList();
    }

    private static void compile(String program, Path out) throws IOException {
        Path source = out.resolve("Example.java");
        Files.writeString(source, program);
        JavaCompiler compiler = ToolProvider.getSystemJavaCompiler();
        int code = compiler.run(null, null, null, "-d", out.toString(), "-cp", System.getProperty("java.class.path"),
                source.toString());
        checks.due("compiles", 0, () -> code);
    }

    private static void call(Path out) throws Exception {
        try (URLClassLoader loader = new URLClassLoader(new URL[] {out.toUri().toURL()})) {
            Method main = loader.loadClass("Example").getMethod("main", String[].class);
            main.invoke(null, (Object) new String[0]);
        }
    }

    private static void remove(Path directory) throws IOException {
        try (Stream<Path> files = Files.list(directory)) {
            for (Path each : files.toList()) {
                Files.delete(each);
            }
        }
        Files.delete(directory);
    }

    private static TreeSet<String> callsOfTheClass() {
        TreeSet<String> calls = new TreeSet<>();
        for (Method each : Signatory.class.getDeclaredMethods()) {
            if (Modifier.isPublic(each.getModifiers())) {
                calls.add(each.getName() + " with " + each.getParameterCount());
            }
        }
        return calls;
    }

    private static TreeSet<String> callsOf(String page) {
        TreeSet<String> calls = new TreeSet<>();
        Matcher row = Pattern.compile("(?m)^\\| `(\\w+)\\(([^)]*)\\)` \\|").matcher(page);
        while (row.find()) {
            calls.add(row.group(1) + " with " + (row.group(2).isEmpty() ? 0 : row.group(2).split(",").length));
        }
        return calls;
    }

    private static TreeSet<String> testsThere() throws IOException {
        TreeSet<String> tests = new TreeSet<>();
        try (Stream<Path> files = Files.list(Path.of("src/test/java"))) {
            files.map(each -> each.getFileName().toString()).filter(each -> each.endsWith("Test.java"))
                    .forEach(each -> tests.add(each.replace(".java", "")));
        }
        return tests;
    }

    private static TreeSet<String> testsOf(String page) {
        TreeSet<String> tests = new TreeSet<>();
        Matcher row = Pattern.compile("(?m)^\\| `(\\w+Test)` \\|").matcher(page);
        while (row.find()) {
            tests.add(row.group(1));
        }
        return tests;
    }
}
