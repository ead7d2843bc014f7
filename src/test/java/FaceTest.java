import java.lang.reflect.Constructor;
import java.lang.reflect.Field;
import java.lang.reflect.Method;
import java.lang.reflect.Modifier;
import java.util.Arrays;
import java.util.TreeSet;

/** The class has the document's face, and nothing else that others can see. */
public final class FaceTest {
    private static final String[] FACE = {
        "boolean bar(int, int, int) IndexOutOfBoundsException",
        "int net()",
        "boolean pin(int, int, int, int) IndexOutOfBoundsException",
        "boolean cost(int, int, int, int) IndexOutOfBoundsException, IllegalArgumentException",
        "int run(int) IllegalArgumentException",
        "int piece(int, int, int) IndexOutOfBoundsException",
        "long costOf(int) IndexOutOfBoundsException",
        "int ripped(int) IndexOutOfBoundsException",
        "long history(int, int, int) IndexOutOfBoundsException",
        "int open(int)",
        "int blocking(int, int) IndexOutOfBoundsException",
        "boolean joined(int) IndexOutOfBoundsException",
        "int corridor(int, int) IndexOutOfBoundsException",
        "int round()",
        "boolean band(int) IndexOutOfBoundsException",
        "new(int, int, int, long)",
        "int NONE",
    };

    private static String names(Class<?>[] types) {
        StringBuilder text = new StringBuilder();
        for (Class<?> type : types) {
            text.append(text.length() == 0 ? "" : ", ").append(type.getSimpleName());
        }
        return text.toString();
    }

    private static String shown(Method m) {
        String thrown = names(m.getExceptionTypes());
        return m.getReturnType().getSimpleName() + " " + m.getName() + "(" + names(m.getParameterTypes()) + ")"
                + (thrown.isEmpty() ? "" : " " + thrown);
    }

    private static void classesInside() {
        for (Class<?> c : GridRipUp.class.getDeclaredClasses()) {
            int marks = c.getModifiers();
            Check.due(c + " is not seen from outside", Modifier.isPublic(marks) || Modifier.isProtected(marks), false);
            Check.due(c + " is static", Modifier.isStatic(marks), true);
        }
    }

    public static void main(String[] args) {
        TreeSet<String> seen = new TreeSet<>();
        TreeSet<String> publicNames = new TreeSet<>();
        for (Method m : GridRipUp.class.getDeclaredMethods()) {
            if (!Modifier.isPrivate(m.getModifiers())) {
                seen.add(shown(m));
                publicNames.add(m.getName());
                Check.due(m + " is public and no static one",
                        Modifier.isPublic(m.getModifiers()) && !Modifier.isStatic(m.getModifiers()), true);
            }
        }
        for (Constructor<?> c : GridRipUp.class.getDeclaredConstructors()) {
            seen.add("new(" + names(c.getParameterTypes()) + ")");
            Check.due(c + " is public", Modifier.isPublic(c.getModifiers()), true);
            Check.due(c + " throws nothing", c.getExceptionTypes().length, 0);
        }
        for (Field f : GridRipUp.class.getDeclaredFields()) {
            if (!Modifier.isPrivate(f.getModifiers())) {
                seen.add(f.getType().getSimpleName() + " " + f.getName());
                Check.due(f + " is public and static",
                        Modifier.isPublic(f.getModifiers()) && Modifier.isStatic(f.getModifiers()), true);
            }
            if (Modifier.isStatic(f.getModifiers())) {
                Check.due(f + " is final", Modifier.isFinal(f.getModifiers()), true);
            }
        }
        TreeSet<String> want = new TreeSet<>(Arrays.asList(FACE));
        if (!seen.equals(want)) {
            System.out.println("seen: " + seen + "\nwant: " + want);
        }
        Check.due("the face is the document's", seen.equals(want), true);
        for (Method m : GridRipUp.class.getDeclaredMethods()) {
            if (Modifier.isPrivate(m.getModifiers())) {
                Check.due(m + " has a public one's name", publicNames.contains(m.getName()), false);
            }
        }
        Check.due("the class is public", Modifier.isPublic(GridRipUp.class.getModifiers()), true);
        Check.due("the class is final", Modifier.isFinal(GridRipUp.class.getModifiers()), true);
        Check.due("the class extends nothing", GridRipUp.class.getSuperclass() == Object.class, true);
        Check.due("the class implements nothing", GridRipUp.class.getInterfaces().length, 0);
        Check.due("the class has no package", GridRipUp.class.getPackageName().isEmpty(), true);
        classesInside();
        Check.due("NONE", GridRipUp.NONE, -1);
        Check.end();
    }
}
