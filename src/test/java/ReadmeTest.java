import java.io.File;
import java.io.IOException;
import java.net.URL;
import java.net.URLClassLoader;
import java.nio.file.Files;
import java.nio.file.Path;
import java.util.ArrayList;
import java.util.Comparator;
import java.util.List;
import java.util.regex.Matcher;
import java.util.regex.Pattern;
import java.util.stream.Stream;
import javax.tools.ToolProvider;

/**
 * Holds README.md to what it says: its examples, one behind the other, answer what stands behind them, and its commands,
 * run as they stand in a copy of the project, do what they say.
 */
public final class ReadmeTest {
    // One line of an example: what it calls, and what that answers.
    private static final Pattern ANSWERED = Pattern.compile("(?:int (\\w+) = )?(\\w+\\..+);\\s+// (-?\\d+|true|false|NONE)\\b.*");
    // What is called without an answer.
    private static final Pattern MADE = Pattern.compile("MillTown town = new MillTown\\(\\);|write\\(town, \"[^\"]*\"\\);");
    // These run all tests, this one too; whoever runs this one has just run them.
    private static final List<String> WHOLE = List.of(".ci/run", ".ci/broken");

    private static int wrong;
    private static int held;

    private ReadmeTest() {
    }

    private static void fail(String what) {
        wrong++;
        System.out.println(what);
    }

    /** The blocks of a language, each as its lines. */
    private static List<List<String>> blocks(List<String> page, String language) {
        List<List<String>> blocks = new ArrayList<>();
        List<String> block = null;
        for (String line : page) {
            if (block == null && line.equals("```" + language)) {
                block = new ArrayList<>();
                blocks.add(block);
            } else if (line.startsWith("```")) {
                block = null;
            } else if (block != null) {
                block.add(line);
            }
        }
        return blocks;
    }

    private static String quoted(String code) {
        return "\"" + code.replace("\\", "\\\\").replace("\"", "\\\"") + "\"";
    }

    /** A line of an example as a line that holds the answer against what stands behind it. */
    private static String asked(String line) {
        Matcher m = ANSWERED.matcher(line);
        if (m.matches()) {
            held++;
            String due = m.group(3).equals("NONE") ? "MillTown.NONE" : m.group(3);
            String ask = m.group(1) == null ? m.group(2) : m.group(1);
            return (m.group(1) == null ? "" : "int " + m.group(1) + " = " + m.group(2) + "; ")
                    + "due(" + quoted(m.group(2)) + ", " + ask + ", " + due + ");\n";
        }
        if (!line.isBlank() && !MADE.matcher(line).matches()) {
            fail("an example without its answer: " + line);
        }
        return line + "\n";
    }

    private static String program(List<List<String>> examples) {
        StringBuilder helpers = new StringBuilder();
        StringBuilder body = new StringBuilder();
        for (List<String> example : examples) {
            boolean helper = example.get(0).startsWith("static ");
            for (String line : example) {
                (helper ? helpers : body).append(helper ? line + "\n" : asked(line));
            }
        }
        return "public final class Examples {\nstatic final StringBuilder WRONG = new StringBuilder();\n"
                + "static void due(String call, Object got, Object due) {\n"
                + "if (!got.equals(due)) { WRONG.append(call + \" answered \" + got + \", the page says \" + due + \"\\n\"); }\n}\n"
                + helpers + "public static String run() {\n" + body + "return WRONG.toString();\n}\n}\n";
    }

    private static void holdExamples(List<List<String>> examples, Path into) throws IOException, ReflectiveOperationException {
        Path source = into.resolve("Examples.java");
        Files.writeString(source, program(examples));
        String classes = into.toString();
        if (ToolProvider.getSystemJavaCompiler().run(null, null, null, "-proc:none", "--release", "17", "-d", classes,
                source.toString(), "src/main/java/MillTown.java") != 0) {
            fail("the examples don't compile");
            return;
        }
        try (URLClassLoader loader = new URLClassLoader(new URL[] {into.toUri().toURL()},
                ClassLoader.getPlatformClassLoader())) {
            String said = (String) loader.loadClass("Examples").getMethod("run").invoke(null);
            said.lines().forEach(ReadmeTest::fail);
        }
    }

    private static void copy(Path from, Path to) throws IOException {
        try (Stream<Path> all = Files.walk(from)) {
            for (Path path : all.toList()) {
                Path copied = to.resolve(from.relativize(path).toString());
                if (Files.isDirectory(path)) {
                    Files.createDirectories(copied);
                } else {
                    Files.copy(path, copied);
                }
            }
        }
    }

    private static void holdCommand(String command, Path project) throws IOException, InterruptedException {
        if (WHOLE.contains(command)) {
            if (!new File(command).canExecute()) {
                fail(command + " can't be run");
            }
            return;
        }
        Path said = project.resolve("said.txt");
        Process process = new ProcessBuilder("bash", "-c", command).directory(project.toFile())
                .redirectErrorStream(true).redirectOutput(said.toFile()).start();
        if (process.waitFor() != 0) {
            fail(command + " ended with " + process.exitValue() + "\n" + Files.readString(said));
        }
        Matcher runs = Pattern.compile("java -Druns=(\\d+) -cp out RandomRuns").matcher(command);
        if (runs.matches() && !Files.readString(said).startsWith(runs.group(1) + " runs")) {
            fail(command + " told of other runs: " + Files.readString(said));
        }
    }

    private static void remove(Path place) throws IOException {
        try (Stream<Path> all = Files.walk(place)) {
            for (Path path : all.sorted(Comparator.reverseOrder()).toList()) {
                Files.delete(path);
            }
        }
    }

    public static void main(String[] args) throws IOException, ReflectiveOperationException, InterruptedException {
        List<String> page = Files.readAllLines(Path.of("README.md"));
        Path place = Files.createTempDirectory("readme");
        Path project = place.resolve("project");
        copy(Path.of("src"), project.resolve("src"));
        Files.createSymbolicLink(place.resolve("shared"), Path.of(System.getProperty("shared", "../shared")).toRealPath());
        holdExamples(blocks(page, "java"), Files.createDirectory(place.resolve("examples")));
        int commands = 0;
        for (List<String> block : blocks(page, "sh")) {
            for (String command : block) {
                holdCommand(command, project);
                commands++;
            }
        }
        remove(place);
        System.out.println("ReadmeTest: " + held + " answers, " + commands + " commands, " + wrong + " wrong");
        if (held == 0 || commands == 0 || wrong != 0) {
            System.exit(1);
        }
    }
}
