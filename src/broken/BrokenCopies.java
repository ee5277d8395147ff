import java.io.IOException;
import java.io.StringWriter;
import java.lang.reflect.Method;
import java.net.URI;
import java.net.URL;
import java.net.URLClassLoader;
import java.nio.file.Files;
import java.nio.file.Path;
import java.util.ArrayList;
import java.util.Comparator;
import java.util.List;
import java.util.Map;
import java.util.Set;
import java.util.TreeSet;
import java.util.regex.Matcher;
import java.util.regex.Pattern;
import java.util.stream.Stream;
import javax.tools.JavaCompiler;
import javax.tools.JavaFileObject;
import javax.tools.SimpleJavaFileObject;
import javax.tools.ToolProvider;

/**
 * Holds the tests of sentences against copies of the class in each of which one sentence is broken, as copies.txt tells
 * them: the test of that sentence must fail, and each sentence must have such a copy.
 */
public final class BrokenCopies {
    private static final Pattern RANGE = Pattern.compile("within\\((\\w+), (-?\\d+), (\\d+)\\)");

    /** A sentence, and what stands in the copy in place of what. */
    private record Copy(String sentence, List<String[]> changes) {
    }

    private final Path tests;
    private final String source;
    private final List<String> wrong = new ArrayList<>();

    private BrokenCopies(Path tests, String source) {
        this.tests = tests;
        this.source = source;
    }

    /**
     * "= " begins a sentence; behind it copies with a blank line between: "- " what stands there, "+ " what stands in its
     * place, or "~ " a range, of which four copies are made.
     */
    private static List<Copy> read(List<String> lines) {
        List<Copy> copies = new ArrayList<>();
        String sentence = "";
        List<String[]> changes = new ArrayList<>();
        boolean added = true;
        for (String line : lines) {
            String rest = line.length() > 2 ? line.substring(2) : "";
            if (line.isEmpty() || line.startsWith("= ") || line.startsWith("~ ")) {
                if (!changes.isEmpty()) {
                    copies.add(new Copy(sentence, changes));
                    changes = new ArrayList<>();
                }
                added = true;
            }
            if (line.startsWith("= ")) {
                sentence = rest;
            } else if (line.startsWith("~ ")) {
                copies.addAll(besides(sentence, rest));
            } else if (line.startsWith("-")) {
                if (added) {
                    changes.add(new String[] {rest, ""});
                } else {
                    changes.get(changes.size() - 1)[0] += "\n" + rest;
                }
                added = false;
            } else if (line.startsWith("+")) {
                String[] last = changes.get(changes.size() - 1);
                last[1] += added ? "\n" + rest : rest;
                added = true;
            }
        }
        if (!changes.isEmpty()) {
            copies.add(new Copy(sentence, changes));
        }
        return copies;
    }

    private static List<Copy> besides(String sentence, String range) {
        Matcher m = RANGE.matcher(range);
        if (!m.find()) {
            throw new IllegalArgumentException("no range in " + range);
        }
        int least = Integer.parseInt(m.group(2));
        int most = Integer.parseInt(m.group(3));
        List<Copy> copies = new ArrayList<>();
        for (int[] d : new int[][] {{-1, 0}, {1, 0}, {0, -1}, {0, 1}}) {
            String to = "within(" + m.group(1) + ", " + (least + d[0]) + ", " + (most + d[1]) + ")";
            String[] change = {range, range.substring(0, m.start()) + to + range.substring(m.end())};
            copies.add(new Copy(sentence, List.<String[]>of(change)));
        }
        return copies;
    }

    private synchronized void fail(String what) {
        wrong.add(what);
    }

    /** The source of a copy, null if what it changes doesn't stand there once. */
    private String changed(Copy copy) {
        String text = source;
        for (String[] change : copy.changes()) {
            int at = text.indexOf(change[0]);
            if (at < 0 || text.indexOf(change[0], at + 1) >= 0) {
                fail((at < 0 ? "not in the class: " : "twice in the class: ") + change[0] + "\n    for " + copy.sentence());
                return null;
            }
            text = text.substring(0, at) + change[1] + text.substring(at + change[0].length());
        }
        return text;
    }

    private static boolean compiled(String text, Path into, StringWriter said) {
        JavaCompiler compiler = ToolProvider.getSystemJavaCompiler();
        JavaFileObject file = new SimpleJavaFileObject(URI.create("string:///MillTown.java"), JavaFileObject.Kind.SOURCE) {
            @Override
            public CharSequence getCharContent(boolean ignore) {
                return text;
            }
        };
        return compiler.getTask(said, null, null, List.of("-d", into.toString(), "-proc:none", "--release", "17"), null,
                List.of(file)).call();
    }

    /** What the tests find wrong in the classes at a place, by sentences: of one sentence, or of all (null). */
    private Map<?, ?> found(Path copy, String only) throws ReflectiveOperationException, IOException {
        URL[] places = {copy.toUri().toURL(), tests.toUri().toURL()};
        try (URLClassLoader loader = new URLClassLoader(places, ClassLoader.getPlatformClassLoader())) {
            Method stood = loader.loadClass("Edges").getDeclaredMethod("stood", String.class);
            Method wrong = loader.loadClass("Edges").getDeclaredMethod("wrong");
            stood.setAccessible(true);
            wrong.setAccessible(true);
            return (Map<?, ?>) wrong.invoke(stood.invoke(null, only));
        }
    }

    private void hold(Copy copy) {
        String text = changed(copy);
        if (text == null) {
            return;
        }
        try {
            Path into = Files.createTempDirectory("copy");
            StringWriter said = new StringWriter();
            if (!compiled(text, into, said)) {
                fail("doesn't compile: " + described(copy) + "\n" + said);
            } else if (found(into, copy.sentence()).get(copy.sentence()) instanceof List<?> what && what.isEmpty()) {
                fail("not found: " + described(copy));
            }
            remove(into);
        } catch (IOException | ReflectiveOperationException e) {
            fail(described(copy) + ": " + e);
        }
    }

    private static String described(Copy copy) {
        StringBuilder text = new StringBuilder(copy.sentence());
        for (String[] change : copy.changes()) {
            text.append("\n    ").append(change[0].strip()).append("\n ->  ").append(change[1].strip());
        }
        return text.toString();
    }

    private static void remove(Path place) throws IOException {
        try (Stream<Path> all = Files.walk(place)) {
            for (Path path : all.sorted(Comparator.reverseOrder()).toList()) {
                Files.delete(path);
            }
        }
    }

    public static void main(String[] args) throws IOException, ReflectiveOperationException {
        Path tests = Path.of(args[0]);
        BrokenCopies all = new BrokenCopies(tests, Files.readString(Path.of("src/main/java/MillTown.java")));
        List<Copy> copies = read(Files.readAllLines(Path.of("src/broken/copies.txt")));
        Set<String> names = new TreeSet<>();
        all.found(tests, null).forEach((name, what) -> names.add(name.toString()));
        Set<String> broken = new TreeSet<>();
        for (Copy copy : copies) {
            broken.add(copy.sentence());
            if (!names.contains(copy.sentence())) {
                all.fail("no test of: " + copy.sentence());
            }
        }
        names.stream().filter(name -> !broken.contains(name)).forEach(name -> all.fail("no copy breaks: " + name));
        copies.parallelStream().filter(copy -> names.contains(copy.sentence())).forEach(all::hold);
        all.wrong.forEach(System.out::println);
        System.out.println("BrokenCopies: " + names.size() + " sentences, " + copies.size() + " copies, "
                + all.wrong.size() + " wrong");
        if (!all.wrong.isEmpty()) {
            System.exit(1);
        }
    }
}
