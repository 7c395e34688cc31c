import java.lang.reflect.Constructor;
import java.lang.reflect.Field;
import java.lang.reflect.Method;
import java.lang.reflect.Modifier;
import java.util.Arrays;
import java.util.TreeSet;

/** The public face is the document's and nothing more (LANGUAGE.md, rule 1). */
final class FaceTest extends Rows {
    private static final Class<?> FACE = BranchConstants.class;

    private static final String[] CONSTANTS = {
        "public static final int SET = 0",
        "public static final int COPY = 1",
        "public static final int ADD = 2",
        "public static final int SUB = 3",
        "public static final int MUL = 4",
        "public static final int ZERO = 5",
        "public static final int JUMP = 6",
        "public static final int HALT = 7",
        "public static final int VARIES = 1",
        "public static final int CONSTANT = 2",
        "public static final int NONE = -1",
    };

    private static final String[] METHODS = {
        "public int BranchConstants.add(int,int,int,int) throws IllegalArgumentException,IllegalStateException",
        "public void BranchConstants.change(int,int,int,int,int) throws IndexOutOfBoundsException,IllegalArgumentException",
        "public int BranchConstants.clear()",
        "public boolean BranchConstants.reached(int) throws IndexOutOfBoundsException",
        "public int BranchConstants.reachedAll()",
        "public int BranchConstants.known(int,int) throws IndexOutOfBoundsException",
        "public int BranchConstants.constant(int,int) throws IndexOutOfBoundsException",
        "public int BranchConstants.rewrite() throws IllegalStateException",
        "public int BranchConstants.code(int,int,int) throws IllegalStateException,IndexOutOfBoundsException",
        "public void BranchConstants.start(int,int,int,int,int) throws IndexOutOfBoundsException,IllegalStateException",
        "public int BranchConstants.run(int,int) throws IndexOutOfBoundsException,IllegalArgumentException,IllegalStateException",
        "public int BranchConstants.place(int) throws IndexOutOfBoundsException,IllegalStateException",
        "public int BranchConstants.value(int,int) throws IndexOutOfBoundsException,IllegalStateException",
        "public int BranchConstants.steps(int) throws IndexOutOfBoundsException,IllegalStateException",
    };

    public static void main(String[] args) {
        CHECK.about("Face: a public and final class with one constructor", FaceTest::theClass);
        CHECK.about("Face: the constants", FaceTest::constants);
        CHECK.about("Face: the methods and what they throw", FaceTest::methods);
        CHECK.about("Face: no private method bears the name of a public one", FaceTest::privateNames);
        CHECK.about("Face: the classes inside are static and not public", FaceTest::classesInside);
        CHECK.end();
    }

    private static boolean isPrivate(int modifiers) {
        return (modifiers & Modifier.PRIVATE) != 0;
    }

    private static String sorted(String... texts) {
        return new TreeSet<>(Arrays.asList(texts)).toString();
    }

    private static void theClass() {
        CHECK.dueText("the class", "public final", Modifier.toString(FACE.getModifiers()));
        Constructor<?>[] constructors = FACE.getDeclaredConstructors();
        CHECK.due("how many constructors", 1, constructors.length);
        CHECK.dueText("the constructor", "public BranchConstants()", constructors[0].toString());
    }

    private static void constants() {
        TreeSet<String> got = new TreeSet<>();
        for (Field field : FACE.getDeclaredFields()) {
            if (!isPrivate(field.getModifiers())) {
                got.add(Modifier.toString(field.getModifiers()) + " " + field.getType() + " " + field.getName()
                        + " = " + valueOf(field));
            }
        }
        CHECK.dueText("the fields", sorted(CONSTANTS), got.toString());
    }

    private static Object valueOf(Field field) {
        try {
            return field.get(null);
        } catch (IllegalAccessException e) {
            return "hidden";
        }
    }

    private static TreeSet<String> publicNames() {
        TreeSet<String> names = new TreeSet<>();
        for (Method method : FACE.getDeclaredMethods()) {
            if (!isPrivate(method.getModifiers())) {
                names.add(method.getName());
            }
        }
        return names;
    }

    private static void methods() {
        TreeSet<String> got = new TreeSet<>();
        for (Method method : FACE.getDeclaredMethods()) {
            if (!isPrivate(method.getModifiers())) {
                got.add(method.toString().replace("java.lang.", ""));
            }
        }
        CHECK.dueText("the methods", sorted(METHODS), got.toString());
    }

    private static void privateNames() {
        TreeSet<String> names = publicNames();
        for (Method method : FACE.getDeclaredMethods()) {
            if (isPrivate(method.getModifiers())) {
                CHECK.due("a private method named " + method.getName(), false, names.contains(method.getName()));
            }
        }
        for (Class<?> inside : FACE.getDeclaredClasses()) {
            for (Method method : inside.getDeclaredMethods()) {
                CHECK.due("a method inside named " + method.getName(), false, names.contains(method.getName()));
            }
        }
    }

    private static void classesInside() {
        for (Class<?> inside : FACE.getDeclaredClasses()) {
            int modifiers = inside.getModifiers();
            CHECK.due(inside + " is static", true, Modifier.isStatic(modifiers));
            CHECK.due(inside + " is public or protected", false,
                    Modifier.isPublic(modifiers) || Modifier.isProtected(modifiers));
        }
    }
}
