import java.io.ByteArrayOutputStream;
import java.io.IOException;
import java.io.PrintStream;
import java.net.URL;
import java.net.URLClassLoader;
import java.nio.file.Files;
import java.nio.file.Path;
import java.util.ArrayList;
import java.util.List;
import java.util.Set;
import java.util.TreeSet;
import java.util.regex.Matcher;
import java.util.regex.Pattern;
import java.util.stream.Stream;
import javax.tools.ToolProvider;

/** README.md: its example is run as it stands there, its command must be there, and its table must name every test. */
public final class ReadmeTest {
    private static final Checks is = new Checks();
    private static final Path TESTS = Path.of("src/test/java");
    private static final Path PROGRAM = Path.of("src/main/java/SleepingIslands.java");

    public static void main(String[] args) throws Exception {
        String page = Files.readString(Path.of("README.md"));
        example(between(page, "```java\n", "```"));
        command(page);
        table(page);
        is.end();
    }

    private static String between(String page, String begin, String end) {
        int from = page.indexOf(begin) + begin.length();
        return page.substring(from, page.indexOf(end, from));
    }

    /** What the example prints, line by line, is what its comments say: "// number: ..". */
    private static void example(String program) throws Exception {
        Path folder = Files.createTempDirectory("readme");
        try {
            Path source = Files.writeString(folder.resolve("Example.java"), program);
            is.due("javac of the example", ToolProvider.getSystemJavaCompiler().run(null, null, null, "-Xlint:all", "-Werror",
                "-d", folder.toString(), PROGRAM.toString(), source.toString()), 0);
            List<String> calls = callsIn(program);
            String[] printed = run(folder).split("\\R");
            is.due("lines that the example prints", printed.length, calls.size());
            for (int at = 0; at < calls.size() && at < printed.length; at++) {
                is.due(calls.get(at), Long.parseLong(printed[at]), answerOf(calls.get(at)));
            }
        } finally {
            remove(folder);
        }
    }

    private static List<String> callsIn(String program) {
        List<String> calls = new ArrayList<>();
        for (String line : program.split("\n")) {
            if (line.strip().startsWith("tell(")) {
                calls.add(line.strip());
            }
        }
        return calls;
    }

    private static long answerOf(String call) {
        Matcher answer = Pattern.compile("; +// (-?\\d+): ").matcher(call);
        if (!answer.find()) {
            is.due(call + " has no answer behind it", 1, 0);
            return 0;
        }
        return Long.parseLong(answer.group(1));
    }

    private static String run(Path folder) throws Exception {
        PrintStream before = System.out;
        ByteArrayOutputStream printed = new ByteArrayOutputStream();
        // The parent is the machine's own loader, so that the example meets the class that was compiled with it.
        try (URLClassLoader loader = new URLClassLoader(new URL[] {folder.toUri().toURL()}, ClassLoader.getPlatformClassLoader())) {
            System.setOut(new PrintStream(printed, true));
            loader.loadClass("Example").getMethod("main", String[].class).invoke(null, (Object) new String[0]);
        } finally {
            System.setOut(before);
        }
        return printed.toString();
    }

    private static void remove(Path folder) throws IOException {
        try (Stream<Path> files = Files.list(folder)) {
            for (Path file : files.toList()) {
                Files.delete(file);
            }
        }
        Files.delete(folder);
    }

    private static void command(String page) {
        String named = between(page, "## How to run its tests\n\n    ", "\n");
        is.due("whether the command " + named + " can be run", Files.isExecutable(Path.of(named)) ? 1 : 0, 1);
    }

    /** The command runs what is called *Test: the table names these, and no others. */
    private static void table(String page) throws IOException {
        Set<String> named = new TreeSet<>();
        Matcher row = Pattern.compile("(?m)^\\| `(\\w+)` \\|").matcher(page);
        while (row.find()) {
            named.add(row.group(1));
        }
        try (Stream<Path> files = Files.list(TESTS)) {
            for (Path file : files.toList()) {
                String name = file.getFileName().toString().replace(".java", "");
                if (name.endsWith("Test")) {
                    is.due("whether the table names " + name, named.remove(name) ? 1 : 0, 1);
                } else {
                    is.due("mains in " + name + ", which is not run", Files.readString(file).contains(" main(String") ? 1 : 0, 0);
                }
            }
        }
        is.due("tests in the table that there are not: " + named, named.size(), 0);
    }
}
