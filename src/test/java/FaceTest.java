import java.io.IOException;
import java.lang.reflect.Constructor;
import java.lang.reflect.Field;
import java.lang.reflect.Method;
import java.lang.reflect.Modifier;
import java.nio.charset.StandardCharsets;
import java.nio.file.Files;
import java.nio.file.Path;
import java.util.ArrayList;
import java.util.Arrays;
import java.util.List;

/**
 * "The public face": each line of it, with what it says that it throws, and nothing beyond it that others could see;
 * and the headings that the interface says ahead of its calls.
 */
final class FaceTest {
    private static final String INDEX = "IndexOutOfBoundsException";
    private static final String ARGUMENT = "IllegalArgumentException";
    private static final String STATE = "IllegalStateException";

    /** As the document has them, and in its order. */
    private static final String[] CALLS = {
        "int set(int, int, int, int) throws " + INDEX + ", " + ARGUMENT,
        "int setFrost(int, int) throws " + INDEX + ", " + ARGUMENT,
        "int cut(int, int) throws " + INDEX + ", " + STATE,
        "int license(int, int) throws " + ARGUMENT + ", " + STATE,
        "int go(int, int) throws " + INDEX + ", " + STATE,
        "int warden(int, int, int) throws " + INDEX + ", " + ARGUMENT + ", " + STATE,
        "int cell(int, int, int) throws " + INDEX,
        "int hole(int, int) throws " + INDEX,
        "int spearer(int, int) throws " + INDEX,
        "int about(int, int) throws " + INDEX,
        "int count(int) throws " + INDEX,
        "int pass(int) throws " + ARGUMENT,
        "int bears()",
        "int foresee(int, int) throws " + ARGUMENT + ", " + INDEX,
        "int advise(int) throws " + INDEX,
        "double mean()",
        "long digest()",
    };

    /** A heading, and the calls behind it up to the next one. */
    private static final String[][] HEADINGS = {
        {"---- lake and holes", "set", "setFrost", "cut"},
        {"---- people", "license", "go", "warden"},
        {"---- what is there", "cell", "hole", "spearer", "about", "count"},
        {"---- nights and what would be", "pass", "bears", "foresee", "advise", "mean", "digest"},
    };

    public static void main(String[] args) {
        Check.test("the class is public and final, without a package and above no other", FaceTest::theClass);
        Check.test("one constructor, public and without arguments", FaceTest::theConstructor);
        Check.test("the calls of the document, and no others", FaceTest::theCalls);
        Check.test("no private method has the name of a call", FaceTest::namesOfCalls);
        Check.test("no field can be seen, and no static one can change", FaceTest::theFields);
        Check.test("no class inside is public, protected or bound to an object", FaceTest::theClassesInside);
        Check.test("the headings are ahead of their calls", FaceTest::theHeadings);
        Check.end();
    }

    private static void isTrue(String what, boolean holds) {
        Check.same(what, holds ? 1 : 0, 1);
    }

    private static void theClass() {
        Class<?> face = EelPermits.class;
        int modifiers = face.getModifiers();
        isTrue("public", Modifier.isPublic(modifiers));
        isTrue("final", Modifier.isFinal(modifiers));
        isTrue("no package", face.getPackageName().isEmpty());
        isTrue("no class above it", face.getSuperclass() == Object.class);
        Check.same("interfaces", face.getInterfaces().length, 0);
    }

    private static void theConstructor() {
        Constructor<?>[] all = EelPermits.class.getDeclaredConstructors();
        Check.same("constructors", all.length, 1);
        isTrue("public", Modifier.isPublic(all[0].getModifiers()));
        Check.same("arguments", all[0].getParameterCount(), 0);
        Check.same("exceptions", all[0].getExceptionTypes().length, 0);
    }

    private static void theCalls() {
        List<String> due = new ArrayList<>(Arrays.asList(CALLS));
        for (Method method : EelPermits.class.getDeclaredMethods()) {
            if (!Modifier.isPrivate(method.getModifiers())) {
                isTrue(told(method) + " is in the document", due.remove(told(method)));
                isTrue(told(method) + " is public", Modifier.isPublic(method.getModifiers()));
                isTrue(told(method) + " is not static", !Modifier.isStatic(method.getModifiers()));
            }
        }
        isTrue("all are there, but for " + due, due.isEmpty());
    }

    private static String told(Method method) {
        String line = method.getReturnType().getSimpleName() + " " + method.getName()
            + "(" + names(method.getParameterTypes()) + ")";
        Class<?>[] thrown = method.getExceptionTypes();
        return thrown.length == 0 ? line : line + " throws " + names(thrown);
    }

    private static String names(Class<?>[] classes) {
        List<String> all = new ArrayList<>();
        for (Class<?> one : classes) {
            all.add(one.getSimpleName());
        }
        return String.join(", ", all);
    }

    private static void namesOfCalls() {
        List<String> calls = new ArrayList<>();
        for (String[] heading : HEADINGS) {
            calls.addAll(Arrays.asList(heading).subList(1, heading.length));
        }
        Check.same("calls under headings", calls.size(), CALLS.length);
        for (Method method : EelPermits.class.getDeclaredMethods()) {
            if (Modifier.isPrivate(method.getModifiers())) {
                isTrue(method.getName(), !calls.contains(method.getName()));
            }
        }
    }

    private static void theFields() {
        for (Field field : EelPermits.class.getDeclaredFields()) {
            isTrue(field.getName() + " is private", Modifier.isPrivate(field.getModifiers()));
        }
        for (Class<?> inside : withClassesInside()) {
            for (Field field : inside.getDeclaredFields()) {
                int modifiers = field.getModifiers();
                isTrue(field.getName() + " is final", !Modifier.isStatic(modifiers) || Modifier.isFinal(modifiers));
            }
        }
    }

    private static List<Class<?>> withClassesInside() {
        List<Class<?>> all = new ArrayList<>(Arrays.asList(EelPermits.class.getDeclaredClasses()));
        all.add(EelPermits.class);
        return all;
    }

    private static void theClassesInside() {
        for (Class<?> inside : EelPermits.class.getDeclaredClasses()) {
            int modifiers = inside.getModifiers();
            isTrue(inside.getName() + " is not public", !Modifier.isPublic(modifiers));
            isTrue(inside.getName() + " is not protected", !Modifier.isProtected(modifiers));
            isTrue(inside.getName() + " is static", Modifier.isStatic(modifiers));
        }
    }

    /** The class file does not keep headings, so that the source is read; .ci/run starts the tests at the root. */
    private static void theHeadings() {
        String source = read(Path.of("src", "main", "java", "EelPermits.java"));
        int behind = 0;
        for (String[] heading : HEADINGS) {
            int at = source.indexOf("// " + heading[0] + "\n", behind);
            isTrue(heading[0] + " is there, in its turn", at >= behind);
            behind = at;
            for (int i = 1; i < heading.length; i++) {
                at = source.indexOf(" " + heading[i] + "(", behind);
                isTrue(heading[i] + " is behind " + heading[0] + ", in its turn", at > behind);
                behind = at;
            }
        }
    }

    private static String read(Path path) {
        try {
            return Files.readString(path, StandardCharsets.UTF_8);
        } catch (IOException e) {
            throw new IllegalStateException("can't read " + path.toAbsolutePath());
        }
    }
}
