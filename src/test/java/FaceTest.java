import java.lang.reflect.Constructor;
import java.lang.reflect.Field;
import java.lang.reflect.Method;
import java.lang.reflect.Modifier;
import java.util.Arrays;
import java.util.TreeSet;

/** The public face is the document's and nothing more (LANGUAGE.md, rule 1). */
final class FaceTest {
    private static final int HIDDEN = Modifier.PRIVATE;

    private static final String[] FACE = {
        "public static final int ADD = 2",
        "public static final int CONSTANT = 2",
        "public static final int COPY = 1",
        "public static final int HALT = 7",
        "public static final int JUMP = 6",
        "public static final int MUL = 4",
        "public static final int NONE = -1",
        "public static final int SET = 0",
        "public static final int SUB = 3",
        "public static final int VARIES = 1",
        "public static final int ZERO = 5",
        "public BranchConstants()",
        "public int BranchConstants.add(int,int,int,int) throws IllegalArgumentException,IllegalStateException",
        "public void BranchConstants.change(int,int,int,int,int) throws IndexOutOfBoundsException,IllegalArgumentException",
        "public int BranchConstants.clear()",
        "public boolean BranchConstants.reached(int) throws IndexOutOfBoundsException",
        "public int BranchConstants.reachedAll()",
        "public int BranchConstants.known(int,int) throws IndexOutOfBoundsException",
        "public int BranchConstants.constant(int,int) throws IndexOutOfBoundsException",
        "public int BranchConstants.rewrite() throws IllegalStateException",
        "public int BranchConstants.code(int,int,int) throws IllegalStateException,IndexOutOfBoundsException",
        "public void BranchConstants.start(int,int,int,int,int) throws IndexOutOfBoundsException,IllegalStateException",
        "public int BranchConstants.run(int,int) throws IndexOutOfBoundsException,IllegalArgumentException,IllegalStateException",
        "public int BranchConstants.place(int) throws IndexOutOfBoundsException,IllegalStateException",
        "public int BranchConstants.value(int,int) throws IndexOutOfBoundsException,IllegalStateException",
        "public int BranchConstants.steps(int) throws IndexOutOfBoundsException,IllegalStateException",
    };

    public static void main(String[] args) throws IllegalAccessException {
        Check check = new Check();
        Class<?> face = BranchConstants.class;
        check.dueText("the class", "public final", Modifier.toString(face.getModifiers()));

        TreeSet<String> got = new TreeSet<>();
        for (Field field : face.getDeclaredFields()) {
            if ((field.getModifiers() & HIDDEN) == 0) {
                got.add(Modifier.toString(field.getModifiers()) + " " + field.getType() + " " + field.getName()
                        + " = " + field.get(null));
            }
        }
        for (Constructor<?> constructor : face.getDeclaredConstructors()) {
            if ((constructor.getModifiers() & HIDDEN) == 0) {
                got.add(constructor.toString());
            }
        }
        TreeSet<String> visible = new TreeSet<>();
        for (Method method : face.getDeclaredMethods()) {
            if ((method.getModifiers() & HIDDEN) == 0) {
                got.add(method.toString().replace("java.lang.", ""));
                visible.add(method.getName());
            }
        }
        check.dueText("the face", new TreeSet<>(Arrays.asList(FACE)).toString(), got.toString());

        for (Method method : face.getDeclaredMethods()) {
            if ((method.getModifiers() & HIDDEN) != 0) {
                check.due("a private method named " + method.getName(), false, visible.contains(method.getName()));
            }
        }
        for (Class<?> inside : face.getDeclaredClasses()) {
            check.due(inside + " is static", true, Modifier.isStatic(inside.getModifiers()));
            for (Method method : inside.getDeclaredMethods()) {
                check.due("a method inside named " + method.getName(), false, visible.contains(method.getName()));
            }
        }
        check.end();
    }
}
