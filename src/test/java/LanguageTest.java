import java.io.IOException;
import java.lang.reflect.Field;
import java.lang.reflect.Method;
import java.lang.reflect.Modifier;
import java.nio.file.Files;
import java.nio.file.Path;
import java.util.List;
import java.util.Set;
import java.util.TreeSet;
import java.util.regex.Matcher;
import java.util.regex.Pattern;

/** The rules of LANGUAGE.md that the program's text and its classes show. Runs in the project's directory. */
public final class LanguageTest {
    private static final Path SOURCE = Path.of("src/main/java/GridRipUp.java");
    private static final int MOST_LINES_OF_A_METHOD = 60;
    private static final int MOST_PARAMETERS = 7;
    private static final int MOST_CLASSES = 12;
    private static final int MOST_FIELDS = 20;
    private static final List<String> NOT_THERE = List.of("->", "::", "finally", "synchronized", "assert ", "Exact(",
        "getMessage", "Thread", "Random", "java.io", "java.nio", "java.time", "currentTimeMillis", "nanoTime",
        "hashCode", "toString", ".equals", "double", "float", "@SuppressWarnings", "package ", "volatile", "native");
    private static final Set<String> LIBRARY = Set.of("Arrays.fill", "Arrays.copyOf", "Arrays.copyOfRange",
        "System.arraycopy", "Math.max", "Math.min", "Math.abs", "Math.floorMod", "Math.floorDiv", "Integer.bitCount");

    public static void main(String[] args) throws IOException {
        String text = Files.readString(SOURCE);
        String code = withoutCommentsAndTexts(text);
        plainCharacters(text);
        nothingElse(code);
        libraryCalls(code);
        throwsAreWritten(text);
        shortMethods(code);
        classes();
        Check.end();
    }

    private static String withoutCommentsAndTexts(String text) {
        return text.replaceAll("(?s)/\\*.*?\\*/", "").replaceAll("//[^\n]*", "").replaceAll("\"[^\"\n]*\"", "\"\"");
    }

    // Rule 3: "Texts hold characters 0 to 255 alone".
    private static void plainCharacters(String text) {
        Check.due("characters beyond 255", text.chars().filter(c -> c > 255).count(), 0);
    }

    // Rules 2, 3, 4, 6 and 13: what the program does without.
    private static void nothingElse(String code) {
        for (String word : NOT_THERE) {
            Check.due("'" + word + "' in the program", code.contains(word), false);
        }
        Matcher imports = Pattern.compile("(?m)^import (.*);$").matcher(code);
        while (imports.find()) {
            Check.due("import of " + imports.group(1), imports.group(1).equals("java.util.Arrays"), true);
        }
    }

    // Rule 4: "The library: only what stands here".
    private static void libraryCalls(String code) {
        Matcher calls = Pattern.compile("\\b(Arrays|System|Math|Integer|Long|Character|Objects)\\.\\w+").matcher(code);
        while (calls.find()) {
            Check.due("call of " + calls.group(), LIBRARY.contains(calls.group()), true);
        }
    }

    // Rule 6: "throw new E() or throw new E("a written text")"; the document asks for two of these classes.
    private static void throwsAreWritten(String text) {
        int all = count(text, "\\bthrow\\b");
        int written = count(text, "throw new (IndexOutOfBounds|IllegalArgument)Exception\\(\"[^\"]*\"\\);");
        Check.due("throws that are written out", written, all);
        Check.due("catches", count(text, "\\bcatch\\b"), 0);
    }

    private static int count(String text, String pattern) {
        return (int) Pattern.compile(pattern).matcher(text).results().count();
    }

    // Rule 11: "Methods stay short (some sixty lines)".
    private static void shortMethods(String code) {
        String[] lines = code.split("\n");
        int found = 0;
        for (int at = 0; at < lines.length; at++) {
            Matcher head = Pattern.compile("^( {4}| {8})(?! )[\\w\\[\\] ]+\\([^;]*$").matcher(lines[at]);
            if (head.matches() && !lines[at].trim().matches("(if|for|while|switch)\\b.*")) {
                found++;
                int end = at;
                while (end < lines.length && !lines[end].equals(head.group(1) + "}")) {
                    end++;
                }
                Check.due(lines[at].trim() + " is short", end - at <= MOST_LINES_OF_A_METHOD, true);
            }
        }
        Check.due("methods were found", found > 30, true);
    }

    // Rules 1, 5 and 11: names, static fields, how many classes, fields and parameters there are.
    private static void classes() {
        Set<String> face = new TreeSet<>();
        for (Method m : GridRipUp.class.getDeclaredMethods()) {
            if (Modifier.isPublic(m.getModifiers())) {
                face.add(m.getName());
            }
        }
        Class<?>[] inside = GridRipUp.class.getDeclaredClasses();
        Check.due("not too many classes", inside.length < MOST_CLASSES, true);
        aClass(GridRipUp.class, face);
        for (Class<?> one : inside) {
            aClass(one, face);
        }
    }

    private static void aClass(Class<?> one, Set<String> face) {
        int fields = 0;
        for (Field f : one.getDeclaredFields()) {
            boolean fixed = Modifier.isStatic(f.getModifiers());
            fields += fixed ? 0 : 1;
            Check.due(f + " is no static state", fixed && !Modifier.isFinal(f.getModifiers()), false);
        }
        Check.due(one + " has not too many fields", fields <= MOST_FIELDS, true);
        for (Method m : one.getDeclaredMethods()) {
            Check.due(m + " has few parameters", m.getParameterCount() <= MOST_PARAMETERS, true);
            boolean hidden = Modifier.isPrivate(m.getModifiers());
            Check.due(m + " has a public one's name", hidden && face.contains(m.getName()), false);
        }
    }
}
