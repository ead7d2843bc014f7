import java.io.IOException;
import java.lang.reflect.Method;
import java.lang.reflect.Modifier;
import java.net.URL;
import java.net.URLClassLoader;
import java.nio.file.Files;
import java.nio.file.Path;
import java.util.ArrayList;
import java.util.Comparator;
import java.util.List;
import java.util.Set;
import java.util.TreeSet;
import java.util.regex.Matcher;
import java.util.regex.Pattern;
import java.util.stream.Stream;
import javax.tools.ToolProvider;

/** What README.md says holds: its examples' answers, its tables. Runs in the project's directory. */
public final class ReadmeTest {
    private static final Path README = Path.of("README.md");
    private static final Path TESTS = Path.of("src/test/java");
    private static final Pattern BLOCK = Pattern.compile("(?s)```java\n(.*?)```");
    // "int net = grid.net();   // 0: why": a name or none, a call, its answer, words or none.
    private static final Pattern ANSWERED =
            Pattern.compile("(?:(\\w+) (\\w+) = )?(.+);\\s*// (-?\\d+|true|false)(?:: .*)?");
    private static final Pattern ROW = Pattern.compile("(?m)^\\| `(?:new )?(\\w+)\\((.*?)\\)` \\|");
    private static final Pattern TEST_ROW = Pattern.compile("(?m)^\\| `(\\w+Test)` \\|");

    public static void main(String[] args) throws Exception {
        String readme = Files.readString(README);
        examples(readme);
        calls(readme);
        tests(readme);
        Check.end();
    }

    private static void examples(String readme) throws Exception {
        List<String> lines = new ArrayList<>();
        Matcher blocks = BLOCK.matcher(readme);
        while (blocks.find()) {
            lines.addAll(List.of(blocks.group(1).split("\n")));
        }
        List<String> asked = new ArrayList<>();
        List<String> want = new ArrayList<>();
        StringBuilder body = new StringBuilder();
        for (String line : lines) {
            Matcher answered = ANSWERED.matcher(line);
            if (answered.matches()) {
                asked.add(answered.group(3));
                want.add(answered.group(4));
                body.append(asking(answered));
            } else {
                body.append(line).append('\n');
            }
        }
        List<String> got = answersOf(body.toString());
        Check.due("README: examples with answers", want.size() > 25, true);
        Check.due("README: answers", got.size(), want.size());
        for (int a = 0; a < want.size() && a < got.size(); a++) {
            Check.due("README: " + asked.get(a) + " answered " + got.get(a) + ", it says " + want.get(a),
                    got.get(a).equals(want.get(a)), true);
        }
    }

    private static String asking(Matcher answered) {
        String name = answered.group(2);
        if (name == null) {
            return "answers.add(String.valueOf(" + answered.group(3) + "));\n";
        }
        return answered.group(1) + " " + name + " = " + answered.group(3) + ";\nanswers.add(String.valueOf(" + name
                + "));\n";
    }

    /** Compiles the examples as they stand and runs them. */
    private static List<String> answersOf(String body) throws Exception {
        Path room = Files.createTempDirectory("readme");
        try {
            Path source = room.resolve("ReadmeExample.java");
            Files.writeString(source, "public class ReadmeExample implements java.util.function.Supplier<String> {\n"
                    + "public String get() {\njava.util.List<String> answers = new java.util.ArrayList<>();\n" + body
                    + "return String.join(\" \", answers);\n}\n}\n");
            int failed = ToolProvider.getSystemJavaCompiler().run(null, null, null, "-d", room.toString(), "-cp",
                    System.getProperty("java.class.path"), source.toString());
            Check.due("README: the examples do not compile", failed, 0);
            if (failed != 0) {
                return List.of();
            }
            try (URLClassLoader loader = new URLClassLoader(new URL[] {room.toUri().toURL()})) {
                Object example = loader.loadClass("ReadmeExample").getDeclaredConstructor().newInstance();
                return List.of(((java.util.function.Supplier<?>) example).get().toString().split(" "));
            }
        } finally {
            remove(room);
        }
    }

    private static void remove(Path room) throws IOException {
        try (Stream<Path> all = Files.walk(room)) {
            for (Path one : all.sorted(Comparator.reverseOrder()).toList()) {
                Files.delete(one);
            }
        }
    }

    /** Each call of the face has a row with as many arguments, and no other has one. */
    private static void calls(String readme) {
        Set<String> rows = new TreeSet<>();
        Matcher row = ROW.matcher(readme);
        while (row.find()) {
            rows.add(row.group(1) + " of " + (row.group(2).isEmpty() ? 0 : row.group(2).split(", ").length));
        }
        Set<String> face = new TreeSet<>();
        face.add("GridRipUp of " + GridRipUp.class.getDeclaredConstructors()[0].getParameterCount());
        for (Method m : GridRipUp.class.getDeclaredMethods()) {
            if (Modifier.isPublic(m.getModifiers())) {
                face.add(m.getName() + " of " + m.getParameterCount());
            }
        }
        Check.due("README: the rows " + rows + " are those of " + face, rows.equals(face), true);
    }

    /** Each test has a row, and each row a test. */
    private static void tests(String readme) throws IOException {
        Set<String> rows = new TreeSet<>();
        Matcher row = TEST_ROW.matcher(readme);
        while (row.find()) {
            rows.add(row.group(1) + ".java");
        }
        Set<String> files = new TreeSet<>();
        try (Stream<Path> all = Files.list(TESTS)) {
            all.map(one -> one.getFileName().toString()).filter(one -> one.endsWith("Test.java")).forEach(files::add);
        }
        Check.due("README: the rows " + rows + " are those of " + files, rows.equals(files), true);
    }
}
