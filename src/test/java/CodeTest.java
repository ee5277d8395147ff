import java.io.IOException;
import java.io.PrintWriter;
import java.io.StringWriter;
import java.net.URISyntaxException;
import java.nio.file.Files;
import java.nio.file.Path;
import java.util.ArrayList;
import java.util.HashMap;
import java.util.HashSet;
import java.util.List;
import java.util.Map;
import java.util.Optional;
import java.util.Set;
import java.util.TreeMap;
import java.util.TreeSet;
import java.util.regex.Matcher;
import java.util.regex.Pattern;
import java.util.spi.ToolProvider;
import java.util.stream.Stream;

/** Rules of LANGUAGE.md that are seen best in what the compiler made of the class, as javap tells it. */
public final class CodeTest {
    private static final int LONGEST = 8;
    // What LANGUAGE.md allows of the library; of it, the class needs no more.
    private static final Set<String> LIBRARY = Set.of("Object.\"<init>\"", "Math.abs", "Math.floorDiv", "Math.max", "Math.min",
            "String.charAt", "String.length", "System.arraycopy", "Arrays.fill");
    // Methods that call one another; the depth is an argument of each.
    private static final Set<Set<String>> RECURSIONS = Set.of(
            Set.of("MillTown$Reader.readSum", "MillTown$Reader.readOne"), Set.of("MillTown$Sharing.search"));
    // What makes objects behind the constructors: a Text or a WeekBook, where it isn't there yet.
    private static final Set<String> MAKERS = Set.of("MillTown$Law.freeText", "MillTown$Books.open");
    private static final Pattern METHOD = Pattern.compile("  [\\w$.\\[\\] ]*?([\\w$.]+)\\(.*\\);");
    private static final Pattern CALL = Pattern.compile(".*// (?:Interface)?Method (?:([\\w$/]+)\\.)?(\"<init>\"|\\w+):.*");
    private static final Pattern STATIC = Pattern.compile(".* putstatic .*// Field (?:([\\w$/]+)\\.)?(\\w+):.*");

    private final Map<String, Set<String>> calls = new TreeMap<>();
    private final Map<String, Integer> lengths = new HashMap<>();
    private int wrong;

    private void rule(int number, String what, boolean kept) {
        if (!kept) {
            wrong++;
            System.out.println("rule " + number + ": " + what);
        }
    }

    /** Reads one class: the calls of each method, and what no method may hold. */
    private void read(String name, List<String> lines) {
        String method = name;
        for (String line : lines) {
            Matcher begun = METHOD.matcher(line);
            Matcher call = CALL.matcher(line);
            Matcher put = STATIC.matcher(line);
            if (line.equals("  static {};")) {
                method = name + ".<clinit>";
            } else if (begun.matches()) {
                method = name + "." + begun.group(1);
                calls.computeIfAbsent(method, m -> new TreeSet<>());
            } else if (call.matches()) {
                called(name, method, call.group(1) == null ? name : call.group(1), call.group(2));
            } else if (put.matches()) {
                rule(5, method + " changes " + put.group(2), method.endsWith("<clinit>"));
            }
            rule(6, method + ":" + line, !line.matches(".*\\b(athrow|monitorenter|invokedynamic)\\b.*")
                    && !line.contains("Exception table:"));
            if (line.matches(" +\\d+: (new|newarray|anewarray|multianewarray)\\b.*")) {
                rule(12, method + " makes objects", method.equals(name + "." + name) || MAKERS.contains(method));
            }
        }
    }

    private void called(String name, String method, String of, String what) {
        if (of.startsWith("MillTown")) {
            String called = of + "." + (what.equals("\"<init>\"") ? of : what);
            calls.computeIfAbsent(method, m -> new TreeSet<>()).add(called);
        } else {
            String library = of.substring(of.lastIndexOf('/') + 1) + "." + what;
            rule(4, method + " calls " + of + "." + what, LIBRARY.contains(library));
        }
    }

    /** All methods that a method leads to. */
    private Set<String> reached(String method) {
        Set<String> all = new HashSet<>();
        List<String> next = new ArrayList<>(calls.getOrDefault(method, Set.of()));
        while (!next.isEmpty()) {
            String one = next.remove(next.size() - 1);
            if (all.add(one)) {
                next.addAll(calls.getOrDefault(one, Set.of()));
            }
        }
        return all;
    }

    private Set<String> ring(String method) {
        Set<String> ring = new TreeSet<>();
        for (String one : reached(method)) {
            if (reached(one).contains(method)) {
                ring.add(one);
            }
        }
        return ring;
    }

    /** How many calls stand open at most below a method, and it with them; those of a recursion count once. */
    private int length(String method) {
        Integer known = lengths.get(method);
        if (known != null) {
            return known;
        }
        Set<String> ring = ring(method);
        Set<String> ways = new TreeSet<>(calls.getOrDefault(method, Set.of()));
        ring.forEach(one -> ways.addAll(calls.getOrDefault(one, Set.of())));
        ways.removeAll(ring);
        int most = 0;
        for (String way : ways) {
            most = Math.max(most, length(way));
        }
        lengths.put(method, most + 1);
        return most + 1;
    }

    private void holdCalls() {
        Set<Set<String>> rings = new HashSet<>();
        int longest = 0;
        for (String method : calls.keySet()) {
            Set<String> ring = ring(method);
            if (!ring.isEmpty()) {
                rings.add(ring);
            }
            rule(11, method + " stands above " + length(method) + " calls", length(method) <= LONGEST);
            longest = Math.max(longest, length(method));
        }
        rule(8, "methods that call one another: " + rings, rings.equals(RECURSIONS));
        System.out.println("CodeTest: " + calls.size() + " methods, " + longest + " calls deep, " + wrong + " rules broken");
    }

    private static List<String> told(ToolProvider javap, Path file) {
        StringWriter said = new StringWriter();
        javap.run(new PrintWriter(said), new PrintWriter(said), "-c", "-p", file.toString());
        return said.toString().lines().toList();
    }

    public static void main(String[] args) throws IOException, URISyntaxException {
        Optional<ToolProvider> javap = ToolProvider.findFirst("javap");
        if (javap.isEmpty()) {
            System.out.println("CodeTest: without javap the class isn't looked into");
            return;
        }
        CodeTest test = new CodeTest();
        Path place = Path.of(MillTown.class.getProtectionDomain().getCodeSource().getLocation().toURI());
        try (Stream<Path> files = Files.list(place)) {
            for (Path file : files.filter(f -> f.getFileName().toString().matches("MillTown(\\$\\w+)?\\.class")).toList()) {
                test.read(file.getFileName().toString().replace(".class", ""), told(javap.get(), file));
            }
        }
        test.rule(11, "no public call was found", test.calls.containsKey("MillTown.weeks"));
        test.holdCalls();
        if (test.wrong != 0) {
            System.exit(1);
        }
    }
}
