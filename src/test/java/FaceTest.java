import java.lang.reflect.Constructor;
import java.lang.reflect.Field;
import java.lang.reflect.Method;
import java.lang.reflect.Modifier;
import java.util.Arrays;
import java.util.TreeSet;

/** The public face is the document's, to the letter, and nothing else can be reached. */
public final class FaceTest {
    private static final String OUT = " throws java.lang.IndexOutOfBoundsException";
    private static final String BOTH = OUT + ",java.lang.IllegalArgumentException";
    private static final String[] METHODS = {
        "public boolean VersionFold.draft(int,int,int)",
        "public boolean VersionFold.reads(int)",
        "public boolean VersionFold.writes(int,int)",
        "public int VersionFold.apply(int)" + OUT,
        "public int VersionFold.test(int)" + OUT,
        "public boolean VersionFold.take(int,int)" + OUT,
        "public void VersionFold.clear(int)" + OUT,
        "public int VersionFold.value(int,int,int)" + BOTH,
        "public int VersionFold.seq(int,int)" + BOTH,
        "public int VersionFold.verdict(int,int)" + BOTH,
        "public int VersionFold.written(int,int)" + BOTH,
        "public int VersionFold.since(int,int)" + BOTH,
        "public boolean VersionFold.same(int,int)" + OUT,
        "public int VersionFold.look(int,int)" + OUT,
    };

    private FaceTest() {
    }

    public static void main(String[] args) {
        Check.due(-1, "NONE", () -> VersionFold.NONE);
        Check.due("public final", "the class",
                () -> Modifier.toString(VersionFold.class.getModifiers()));
        Check.due(new TreeSet<>(Arrays.asList(METHODS)), "the methods", FaceTest::openMethods);
        Check.due("[public VersionFold(int)]", "the constructors", FaceTest::openConstructors);
        Check.due("[public static final int VersionFold.NONE]", "the fields", FaceTest::openFields);
        Check.end();
    }

    private static TreeSet<String> openMethods() {
        TreeSet<String> open = new TreeSet<>();
        for (Method method : VersionFold.class.getDeclaredMethods()) {
            if (!Modifier.isPrivate(method.getModifiers()) && !method.isSynthetic()) {
                open.add(method.toString());
            }
        }
        return open;
    }

    private static TreeSet<String> openConstructors() {
        TreeSet<String> open = new TreeSet<>();
        for (Constructor<?> constructor : VersionFold.class.getDeclaredConstructors()) {
            if (!Modifier.isPrivate(constructor.getModifiers())) {
                open.add(constructor.toString());
            }
        }
        return open;
    }

    private static TreeSet<String> openFields() {
        TreeSet<String> open = new TreeSet<>();
        for (Field field : VersionFold.class.getDeclaredFields()) {
            if (!Modifier.isPrivate(field.getModifiers())) {
                open.add(field.toString());
            }
        }
        return open;
    }
}
