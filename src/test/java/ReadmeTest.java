import java.io.IOException;
import java.lang.reflect.Method;
import java.lang.reflect.Modifier;
import java.net.URL;
import java.net.URLClassLoader;
import java.nio.file.Files;
import java.nio.file.Path;
import java.util.Comparator;
import java.util.List;
import java.util.regex.Matcher;
import java.util.regex.Pattern;
import java.util.stream.Collectors;
import java.util.stream.Stream;
import javax.tools.ToolProvider;

/** The program that README.md tells piece by piece answers as it says there, and README.md leaves out no call. */
public final class ReadmeTest {
    private static final Pattern PIECE = Pattern.compile("(?s)```java\n(.*?)```");
    /** What a line asks, and what it says that is answered. */
    private static final Pattern LINE = Pattern.compile("\\s*(.+?);\\s+// -> (\\S+).*");
    private static final Due due = new Due();

    public static void main(String[] args) throws Exception {
        String readme = Files.readString(Path.of("README.md"));
        program(readme);
        calls(readme);
        answers(readme);
        tests(readme);
        due.end();
    }

    private static void program(String readme) throws Exception {
        Path room = Files.createTempDirectory("readme");
        try {
            Path source = room.resolve("Readme.java");
            Files.writeString(source, sourceOf(readme));
            String classes = System.getProperty("java.class.path");
            int outcome = ToolProvider.getSystemJavaCompiler().run(null, null, null, "-cp", classes, "-d",
                room.toString(), source.toString());
            due.is("compiling the program of README.md", outcome, 0);
            if (outcome == 0) {
                compareAnswers(room);
            }
        } finally {
            remove(room);
        }
    }

    private static void compareAnswers(Path room) throws Exception {
        try (URLClassLoader loader = new URLClassLoader(new URL[] {room.toUri().toURL()})) {
            Object answers = loader.loadClass("Readme").getMethod("answers").invoke(null);
            for (Object answer : (List<?>) answers) {
                String[] told = ((String) answer).split("\n");
                due.is(told[0], told[1], told[2]);
            }
        }
    }

    /** The pieces of README.md as a class that lists each call with its answer and the one that is due. */
    private static String sourceOf(String readme) {
        StringBuilder source = new StringBuilder("""
            public final class Readme {
                public static java.util.List<String> answers() {
                    java.util.List<String> answers = new java.util.ArrayList<>();
            """);
        Matcher piece = PIECE.matcher(readme);
        while (piece.find()) {
            for (String line : piece.group(1).split("\n")) {
                source.append(asked(line)).append('\n');
            }
        }
        return source.append("return answers; } }\n").toString();
    }

    private static String asked(String line) {
        Matcher told = LINE.matcher(line);
        if (!told.matches()) {
            return line;
        }
        String call = told.group(1);
        return "answers.add(\"" + call + "\\n\" + (" + call + ") + \"\\n" + told.group(2) + "\");";
    }

    private static void calls(String readme) {
        for (Method m : RingWars.class.getDeclaredMethods()) {
            if (Modifier.isPublic(m.getModifiers())) {
                boolean stands = Pattern.compile("x\\." + m.getName() + "\\(").matcher(readme).find();
                due.is("an example of " + m.getName() + "(..) in README.md", stands ? "one" : "none", "one");
                stands = readme.contains("`" + m.getName() + "(");
                due.is("a word on " + m.getName() + "(..) in README.md", stands ? "one" : "none", "one");
            }
        }
    }

    private static void answers(String readme) {
        List<String> rows = List.of("| -1 | `NONE` |", "| -2 | `BAD` |", "| -3 | `STATE` |", "| -4 | `FULL` |", "| -5 |",
            "| -10 less p |", "| -11 | NOTHING |", "| -12 | CAST |", "| -13 | PLACE |", "| -14 | SIZE |",
            "| `Long.MIN_VALUE` | `NO` |");
        for (String row : rows) {
            due.is("the row " + row + " of README.md", readme.contains("\n" + row) ? "one" : "none", "one");
        }
    }

    private static void tests(String readme) throws IOException {
        try (Stream<Path> files = Files.list(Path.of("src/test/java"))) {
            for (Path file : files.collect(Collectors.toList())) {
                String name = file.getFileName().toString().replace(".java", "");
                due.is(name + " in README.md", readme.contains("`" + name + "`") ? "told" : "not told", "told");
            }
        }
    }

    private static void remove(Path room) throws IOException {
        try (Stream<Path> all = Files.walk(room)) {
            for (Path path : all.sorted(Comparator.reverseOrder()).collect(Collectors.toList())) {
                Files.delete(path);
            }
        }
    }
}
