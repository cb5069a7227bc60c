import java.io.ByteArrayOutputStream;
import java.io.IOException;
import java.io.PrintStream;
import java.lang.reflect.Method;
import java.lang.reflect.Modifier;
import java.net.URL;
import java.net.URLClassLoader;
import java.nio.charset.StandardCharsets;
import java.nio.file.Files;
import java.nio.file.Path;
import java.util.ArrayList;
import java.util.List;
import java.util.stream.Stream;
import javax.tools.ToolProvider;

/**
 * README.md holds: its program compiles and prints what it says, and it names each call, what a
 * call throws, and each test. Is run from the project's directory.
 */
public final class PocketglossReadme extends Checks {
    private static final String NAME = "Reading";
    private static final Path BUILD = Path.of("build", "readme");

    /** Returns the lines of the program, which the page has between two fences. */
    private static List<String> program(List<String> page) {
        int from = page.indexOf("```java") + 1;
        int to = from + page.subList(from, page.size()).indexOf("```");
        return page.subList(from, to);
    }

    /** Returns what the program says that it prints: up to a colon, behind the slashes. */
    private static List<String> said(List<String> program) {
        List<String> said = new ArrayList<>();
        for (String line : program) {
            if (line.contains("println(")) {
                String remark = line.contains("//") ? line.substring(line.indexOf("//") + 2) : "";
                said.add(remark.split(":")[0].trim());
            }
        }
        return said;
    }

    private static List<String> printed(List<String> program)
            throws IOException, ReflectiveOperationException {
        Path source = BUILD.resolve(NAME + ".java");
        Files.createDirectories(BUILD);
        Files.write(source, program);
        String[] options = {
            "-Xlint:all", "-Werror", "-d", BUILD.toString(),
            "-cp", System.getProperty("java.class.path"), source.toString()
        };
        int failed = ToolProvider.getSystemJavaCompiler().run(null, null, null, options);
        is("compiling the program of README.md", failed, 0);
        return failed == 0 ? printed() : new ArrayList<>();
    }

    private static List<String> printed() throws IOException, ReflectiveOperationException {
        ByteArrayOutputStream bytes = new ByteArrayOutputStream();
        PrintStream before = System.out;
        try (URLClassLoader loader = new URLClassLoader(new URL[] {BUILD.toUri().toURL()})) {
            Method main = loader.loadClass(NAME).getMethod("main", String[].class);
            System.setOut(new PrintStream(bytes, true, StandardCharsets.UTF_8));
            main.invoke(null, (Object) new String[0]);
        } finally {
            System.setOut(before);
        }
        return bytes.toString(StandardCharsets.UTF_8).lines().toList();
    }

    private static List<Method> calls() {
        List<Method> calls = new ArrayList<>();
        for (Method method : Pocketgloss.class.getDeclaredMethods()) {
            if (Modifier.isPublic(method.getModifiers())) {
                calls.add(method);
            }
        }
        return calls;
    }

    /** Returns the row of the page's tables that begins with a call; an empty text if none does. */
    private static String row(List<String> page, String call) {
        for (String line : page) {
            if (line.startsWith("| `" + call + "(")) {
                return line;
            }
        }
        return "";
    }

    private static void programRuns(List<String> page)
            throws IOException, ReflectiveOperationException {
        about("the program of README.md");
        List<String> program = program(page);
        String text = String.join("\n", program);
        is("what it prints", printed(program).toString(), said(program).toString());
        for (Method call : calls()) {
            is("whether it calls " + call, text.contains("x." + call.getName() + "("), true);
        }
        is("whether it has NONE", text.contains("Pocketgloss.NONE"), true);
    }

    private static void callsAreTold(List<String> page) {
        about("the tables of README.md");
        is("whether it has the constructor", row(page, "Pocketgloss").isEmpty(), false);
        for (Method call : calls()) {
            String row = row(page, call.getReturnType().getName() + " " + call.getName());
            StringBuilder due = new StringBuilder();
            for (Class<?> exception : call.getExceptionTypes()) {
                due.append('`').append(exception.getSimpleName()).append('`');
            }
            StringBuilder told = new StringBuilder();
            for (String word : row.split(" ")) {
                told.append(word.endsWith("Exception`") ? word : "");
            }
            is("what " + call + " throws", told.toString(), due.toString());
            is("whether it tells what " + call + " does",
                    row.split("\\|").length >= 4, true);
        }
    }

    private static void testsAreTold(List<String> page) throws IOException {
        about("the tests in README.md");
        try (Stream<Path> tests = Files.list(Path.of("src", "test", "java"))) {
            for (Path test : tests.toList()) {
                String name = test.getFileName().toString().replace(".java", "");
                String row = "| `" + name + "` |";
                boolean told = page.stream().anyMatch(line -> line.startsWith(row));
                is("whether it names " + name, told, true);
            }
        }
        is("whether it tells how to run them", page.contains("    .ci/run"), true);
    }

    public static void main(String[] args) throws IOException, ReflectiveOperationException {
        List<String> page = Files.readAllLines(Path.of("README.md"));
        programRuns(page);
        callsAreTold(page);
        testsAreTold(page);
        end("of README.md");
    }
}
