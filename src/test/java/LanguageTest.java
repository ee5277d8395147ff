import java.io.IOException;
import java.lang.reflect.Method;
import java.lang.reflect.Modifier;
import java.nio.file.Files;
import java.nio.file.Path;
import java.util.Arrays;
import java.util.List;
import java.util.Set;
import java.util.TreeSet;
import java.util.regex.Matcher;
import java.util.regex.Pattern;
import java.util.stream.Collectors;

/** Some rules of LANGUAGE.md that can be seen in the source and in the compiled class. */
public final class LanguageTest {
    private static int wrong;

    private static void rule(int number, String what, boolean kept) {
        if (!kept) {
            wrong++;
            System.out.println("rule " + number + ": " + what);
        }
    }

    private static void face() {
        Set<String> face = new TreeSet<>(Arrays.asList(("kind price mean priceOf mill shop home person work feed end text "
                + "fault force pay why hours order terms fund strike weeks millOf homeOf personOf shopOf orderOf book tried "
                + "offer meet wish made proof shared loaf sheet onSheet alter check image back about").split(" ")));
        Set<String> open = Arrays.stream(MillTown.class.getDeclaredMethods())
                .filter(m -> !Modifier.isPrivate(m.getModifiers()))
                .map(Method::getName).collect(Collectors.toCollection(TreeSet::new));
        rule(1, "the face is " + open, open.equals(face));
        rule(1, "fields that can be seen", Arrays.stream(MillTown.class.getDeclaredFields())
                .filter(f -> !Modifier.isPrivate(f.getModifiers()))
                .allMatch(f -> f.getName().equals("NONE")));
        rule(11, "classes: " + MillTown.class.getDeclaredClasses().length, MillTown.class.getDeclaredClasses().length < 12);
        for (Class<?> inside : MillTown.class.getDeclaredClasses()) {
            rule(2, inside + " is not static", Modifier.isStatic(inside.getModifiers()));
            for (Method m : inside.getDeclaredMethods()) {
                rule(1, inside + " has a method of the face: " + m.getName(), !face.contains(m.getName()));
                rule(11, m + " takes many parameters", m.getParameterCount() <= 7);
            }
            long fields = Arrays.stream(inside.getDeclaredFields())
                    .filter(f -> !Modifier.isStatic(f.getModifiers())).count();
            rule(11, inside + " has " + fields + " fields", fields <= 20);
        }
    }

    /** A method as the document's face writes it, without the names of what it takes. */
    private static String written(Method m) {
        return Modifier.toString(m.getModifiers()) + " " + m.getReturnType().getName() + " " + m.getName()
                + Arrays.stream(m.getParameterTypes()).map(Class::getName).collect(Collectors.joining(", ", "(", ")"));
    }

    /** The face as the document writes it: what each call takes and answers. */
    private static void faceOf(Path document) throws IOException {
        if (!Files.isRegularFile(document)) {
            System.out.println("without " + document + " the face isn't held against it");
            return;
        }
        String text = Files.readString(document);
        Set<String> due = new TreeSet<>();
        Matcher told = Pattern.compile("\\n    (public (?:int|boolean) \\w+\\()(.*)\\);").matcher(text);
        while (told.find()) {
            due.add(told.group(1) + told.group(2).replaceAll(" \\w+(?=,|$)", "") + ")");
        }
        Set<String> has = Arrays.stream(MillTown.class.getMethods()).filter(m -> m.getDeclaringClass() == MillTown.class)
                .map(LanguageTest::written).collect(Collectors.toCollection(TreeSet::new));
        rule(1, "the document's face is " + due + ", the class's " + has, due.size() == 43 && due.equals(has));
        rule(1, "the class is public and final", Modifier.toString(MillTown.class.getModifiers()).equals("public final"));
        rule(1, "its constructor", Arrays.stream(MillTown.class.getDeclaredConstructors())
                .allMatch(c -> Modifier.isPublic(c.getModifiers()) && c.getParameterCount() == 0));
    }

    private static void words(String code) {
        for (String word : new String[] {"throw", "throws", "try", "catch", "finally", "synchronized", "assert", "protected",
            "volatile", "transient", "native", "var", "hashCode", "toString", "Object", "System.exit", "double", "float"}) {
            rule(6, "the word " + word, !Pattern.compile("\\b" + Pattern.quote(word) + "\\b").matcher(code).find());
        }
        rule(2, "a lambda", !code.contains("->"));
        rule(2, "a method reference", !code.contains("::"));
        Matcher imports = Pattern.compile("import ([\\w.]+);").matcher(code);
        while (imports.find()) {
            rule(4, "import of " + imports.group(1), imports.group(1).equals("java.util.Arrays"));
        }
        Matcher statics = Pattern.compile("\\n +(private |public )?static (?!final|boolean [a-z]|int [a-z]|void )").matcher(code);
        rule(5, "a static that isn't final", !statics.find());
    }

    private static void lengths(List<String> lines) {
        int begun = 0;
        for (int i = 0; i < lines.size(); i++) {
            String line = lines.get(i);
            if (line.matches(" {4}( {4})?[\\w\\[\\] ]+\\(.*\\) \\{")) {
                begun = i;
            }
            if (line.matches(" {4}( {4})?\\}")) {
                rule(11, "a long method at line " + (begun + 1), i - begun <= 60 || begun == 0);
            }
            rule(3, "a sign beyond 127 in line " + (i + 1), line.chars().allMatch(c -> c < 128));
        }
    }

    public static void main(String[] args) throws IOException {
        Path source = Path.of(System.getProperty("root", "."), "src/main/java/MillTown.java");
        String code = Files.readString(source);
        String bare = code.replaceAll("(?s)/\\*.*?\\*/", "").replaceAll("//[^\\n]*", "");
        face();
        faceOf(Path.of(System.getProperty("shared", "../shared"), "DOC.md"));
        words(bare);
        lengths(Files.readAllLines(source));
        System.out.println("LanguageTest: " + wrong + " rules broken");
        if (wrong != 0) {
            System.exit(1);
        }
    }
}
