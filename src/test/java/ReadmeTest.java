import java.io.ByteArrayOutputStream;
import java.io.IOException;
import java.io.PrintStream;
import java.net.URL;
import java.net.URLClassLoader;
import java.nio.charset.StandardCharsets;
import java.nio.file.Files;
import java.nio.file.Path;
import java.util.ArrayList;
import java.util.List;
import java.util.regex.Matcher;
import java.util.regex.Pattern;
import javax.tools.ToolProvider;

/** The example of use in README.md: it compiles, and prints what stands behind its lines; run it where README.md is. */
public final class ReadmeTest {
    private static final String OPENING = "```java\n";
    private static final String CLOSING = "```\n";
    private static final Pattern ANSWER = Pattern.compile("System\\.out\\.println\\(.*\\);\\s*// ([^\\s:]+)(: .*)?");

    public static void main(String[] args) throws IOException, ReflectiveOperationException {
        Check.sentence("README.md");
        String example = example(Files.readString(Path.of("README.md"), StandardCharsets.UTF_8).replace("\r\n", "\n"));
        Path room = Files.createDirectories(Path.of("build/readme"));
        if (compiles(example, room)) {
            compare(example, run(room));
        }
        Check.end();
    }

    private static String example(String readme) {
        int start = readme.indexOf(OPENING);
        int end = readme.indexOf(CLOSING, start + OPENING.length());
        Check.due("the example stands in it", start >= 0 && end >= 0 ? 1 : 0, 1);
        Check.due("other examples", readme.indexOf(OPENING, Math.max(end, 0)), -1);
        return start >= 0 && end >= 0 ? readme.substring(start + OPENING.length(), end) : "";
    }

    private static boolean compiles(String example, Path room) throws IOException {
        Path source = room.resolve("Example.java");
        Files.writeString(source, example, StandardCharsets.UTF_8);
        int exit = ToolProvider.getSystemJavaCompiler().run(null, null, null, "-Xlint:all", "-Werror", "-d",
            room.toString(), "-cp", System.getProperty("java.class.path"), source.toString());
        Check.due("compiling the example", exit, 0);
        return exit == 0;
    }

    private static List<String> run(Path room) throws IOException, ReflectiveOperationException {
        PrintStream before = System.out;
        ByteArrayOutputStream printed = new ByteArrayOutputStream();
        URL[] places = {room.toUri().toURL()};
        try (URLClassLoader loader = new URLClassLoader(places)) {
            System.setOut(new PrintStream(printed, true, StandardCharsets.UTF_8));
            Class<?> type = Class.forName("Example", true, loader);
            type.getMethod("main", String[].class).invoke(null, (Object) new String[0]);
        } finally {
            System.setOut(before);
        }
        return printed.toString(StandardCharsets.UTF_8).lines().toList();
    }

    private static void compare(String example, List<String> printed) {
        List<String> calls = new ArrayList<>();
        List<String> answers = new ArrayList<>();
        for (String line : example.lines().filter(text -> text.contains("println")).toList()) {
            Matcher told = ANSWER.matcher(line.strip());
            Check.due("an answer behind " + line.strip(), told.matches() ? 1 : 0, 1);
            calls.add(line.strip());
            answers.add(told.matches() ? told.group(1) : "");
        }
        Check.due("lines that tell an answer, at least one", Math.min(answers.size(), 1), 1);
        Check.due("lines that are printed", printed.size(), answers.size());
        for (int i = 0; i < Math.min(printed.size(), answers.size()); i++) {
            Check.due(calls.get(i) + " printed " + printed.get(i), printed.get(i).equals(answers.get(i)) ? 1 : 0, 1);
        }
    }
}
