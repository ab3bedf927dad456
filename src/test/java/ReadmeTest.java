import java.io.ByteArrayOutputStream;
import java.io.IOException;
import java.io.PrintStream;
import java.net.URL;
import java.net.URLClassLoader;
import java.nio.charset.StandardCharsets;
import java.nio.file.Files;
import java.nio.file.Path;
import java.util.ArrayList;
import java.util.Comparator;
import java.util.List;
import java.util.regex.Matcher;
import java.util.regex.Pattern;
import java.util.stream.Stream;
import javax.tools.ToolProvider;

/** README.md: its program compiles as it stands there and prints what it says; each test is named. */
public final class ReadmeTest {
    private static final Check CHECK = new Check("ReadmeTest");

    public static void main(String[] args) throws Exception {
        String readme = Files.readString(Path.of("README.md"));
        Matcher program = Pattern.compile("(?s)```java\n(.*?)```").matcher(readme);
        CHECK.due("a program is there", program.find(), true);
        answers(program.group(1));
        CHECK.due("it is the only one", program.find(), false);
        tests(readme);
        CHECK.finish();
    }

    private static void answers(String source) throws Exception {
        List<String> due = new ArrayList<>();
        for (String line : source.split("\n")) {
            Matcher said = Pattern.compile("^ +show\\(.*\\); *// (\\S+?)(:.*)?$").matcher(line);
            CHECK.due("an answer stands behind: " + line, said.matches(), line.startsWith("        show("));
            if (said.matches()) {
                due.add(said.group(1));
            }
        }
        List<String> got = printed(source);
        CHECK.due("how many answers", got.size(), due.size());
        for (int k = 0; k < Math.min(got.size(), due.size()); k++) {
            CHECK.due("answer " + k + " is " + got.get(k) + ", README.md says " + due.get(k),
                    got.get(k).equals(due.get(k)), true);
        }
    }

    /** The lines that the program prints, compiled against the class that is tested. */
    private static List<String> printed(String source) throws Exception {
        Path place = Files.createTempDirectory("readme");
        try {
            Path file = Files.writeString(place.resolve("Example.java"), source);
            int compiled = ToolProvider.getSystemJavaCompiler().run(null, null, null, "-cp",
                    System.getProperty("java.class.path"), "-d", place.toString(), file.toString());
            CHECK.due("it compiles", compiled, 0);
            return compiled == 0 ? run(place) : List.of();
        } finally {
            clear(place);
        }
    }

    private static List<String> run(Path place) throws Exception {
        PrintStream out = System.out;
        ByteArrayOutputStream bytes = new ByteArrayOutputStream();
        try (URLClassLoader loader = new URLClassLoader(new URL[] {place.toUri().toURL()})) {
            System.setOut(new PrintStream(bytes, true, StandardCharsets.UTF_8));
            loader.loadClass("Example").getMethod("main", String[].class).invoke(null, (Object) new String[0]);
        } finally {
            System.setOut(out);
        }
        return bytes.toString(StandardCharsets.UTF_8).lines().toList();
    }

    private static void clear(Path place) throws IOException {
        try (Stream<Path> all = Files.walk(place)) {
            for (Path one : all.sorted(Comparator.reverseOrder()).toList()) {
                Files.delete(one);
            }
        }
    }

    private static void tests(String readme) throws IOException {
        try (Stream<Path> all = Files.list(Path.of("src/test/java"))) {
            for (Path one : all.sorted().toList()) {
                String name = one.getFileName().toString().replace(".java", "");
                if (name.endsWith("Test")) {
                    CHECK.due("README.md tells of " + name, readme.contains("`" + name + "`"), true);
                }
            }
        }
    }
}
