import java.io.ByteArrayOutputStream;
import java.io.PrintStream;
import java.lang.reflect.Method;
import java.lang.reflect.Modifier;
import java.net.URL;
import java.net.URLClassLoader;
import java.nio.file.Files;
import java.nio.file.Path;
import java.util.ArrayList;
import java.util.Comparator;
import java.util.List;
import java.util.regex.Matcher;
import java.util.regex.Pattern;
import java.util.stream.Stream;
import javax.tools.ToolProvider;

/** README.md: that its program prints what it says, and that it names every call, every test and the way to run them. */
public final class ReadmeTest {
    private static final Check CHECK = new Check("ReadmeTest");

    /** What stands between two marks, behind a heading; empty if they are not there. */
    private static String between(String page, String heading, String opening, String closing) {
        int head = page.indexOf(heading);
        int from = head < 0 ? -1 : page.indexOf(opening, head);
        int to = from < 0 ? -1 : page.indexOf(closing, from + opening.length());
        return to < 0 ? "" : page.substring(from + opening.length(), to);
    }

    /** The answers behind the program's lines, each up to its ':'. */
    private static List<String> toldAnswers(String program) {
        List<String> told = new ArrayList<>();
        Matcher matcher = Pattern.compile("\\);\\s+// ([^:\\s]+):").matcher(program);
        while (matcher.find()) {
            told.add(matcher.group(1));
        }
        return told;
    }

    private static List<String> printed(String program) throws Exception {
        Path folder = Files.createTempDirectory("readme");
        try {
            Path source = folder.resolve("Example.java");
            Files.writeString(source, program);
            int status = ToolProvider.getSystemJavaCompiler().run(null, null, null,
                "-cp", System.getProperty("java.class.path"), "-d", folder.toString(), source.toString());
            CHECK.due("compiling README's program", status, 0);
            return status == 0 ? linesOfExample(folder) : List.of();
        } finally {
            remove(folder);
        }
    }

    private static List<String> linesOfExample(Path folder) throws Exception {
        ByteArrayOutputStream bytes = new ByteArrayOutputStream();
        PrintStream screen = System.out;
        try (URLClassLoader loader = new URLClassLoader(new URL[] {folder.toUri().toURL()});
                PrintStream instead = new PrintStream(bytes)) {
            System.setOut(instead);
            loader.loadClass("Example").getMethod("main", String[].class).invoke(null, (Object) new String[0]);
        } finally {
            System.setOut(screen);
        }
        return bytes.toString().lines().toList();
    }

    private static void remove(Path folder) throws Exception {
        try (Stream<Path> all = Files.walk(folder)) {
            for (Path path : all.sorted(Comparator.reverseOrder()).toList()) {
                Files.delete(path);
            }
        }
    }

    private static void program(String page) throws Exception {
        String program = between(page, "## How to use it", "```java\n", "```");
        List<String> told = toldAnswers(program);
        List<String> printed = printed(program);
        CHECK.due("README's program: lines", printed.size(), told.size());
        CHECK.due("README's program: lines that call println", program.split("println", -1).length - 1, told.size());
        for (int i = 0; i < told.size() && i < printed.size(); i++) {
            CHECK.due("README's program, line " + i, printed.get(i), told.get(i));
        }
    }

    private static void calls(String page) {
        String use = between(page, "## How to use it", "The calls, by what they are for:", "## How to run its tests");
        for (Method method : GaleRoof.class.getDeclaredMethods()) {
            if (Modifier.isPublic(method.getModifiers())) {
                String name = "`" + method.getName() + "`";
                CHECK.due("README names the call " + name, use.contains(name), true);
            }
        }
    }

    private static void tests(String page) throws Exception {
        String way = between(page, "## How to run its tests", "\n\n    ", "\n");
        CHECK.due("README's way to run the tests", way, "sh .ci/run");
        CHECK.due("that way is there", Files.isExecutable(Path.of(".ci/run")), true);
        int told = 0;
        try (Stream<Path> files = Files.list(Path.of("src/test/java"))) {
            for (Path file : files.filter(f -> f.toString().endsWith("Test.java")).toList()) {
                String name = "`" + file.getFileName().toString().replace(".java", "") + "`";
                CHECK.due("README names the test " + name, page.contains(name), true);
                told++;
            }
        }
        CHECK.due("tests are there", told > 0, true);
    }

    public static void main(String[] args) throws Exception {
        String page = Files.readString(Path.of("README.md"));
        program(page);
        calls(page);
        tests(page);
        CHECK.end();
    }
}
