import java.lang.reflect.Constructor;
import java.lang.reflect.Field;
import java.lang.reflect.Method;
import java.lang.reflect.Modifier;
import java.util.Arrays;
import java.util.TreeSet;

/** The class shows the face of the document and nothing else. */
public final class FaceTest {
    private static final String[] FACE = {
        "boolean change(int, int)", "boolean cut(int)", "boolean holds()", "boolean type(int)",
        "int byteAt(int)", "int challenge(int)", "int claimed(int)", "int prove()", "int size()", "int verify()",
        "void claim(int, int)", "void multiply(int, int, int)", "void party(int, int, int, int)",
        "void shape(int, int, int)", "void spoil(int, int, int)", "void weigh(int, int, int, int)"};

    private FaceTest() {
    }

    public static void main(String[] args) {
        Due due = new Due();
        int flags = FoldedProof.class.getModifiers();
        due.yes("public final", Modifier.isPublic(flags) && Modifier.isFinal(flags));
        TreeSet<String> shown = new TreeSet<>();
        TreeSet<String> hidden = new TreeSet<>();
        for (Method method : FoldedProof.class.getDeclaredMethods()) {
            if (Modifier.isPrivate(method.getModifiers())) {
                hidden.add(method.getName());
            } else {
                due.is(method.getName() + " is public and no more", method.getModifiers(), Modifier.PUBLIC);
                String told = method.getReturnType() == void.class ? "[" + IllegalArgumentException.class + "]" : "[]";
                due.yes(method.getName() + " throws what its face says",
                    Arrays.toString(method.getExceptionTypes()).equals(told));
                String inside = Arrays.toString(method.getParameterTypes()).replace("[", "(").replace("]", ")");
                shown.add(method.getReturnType() + " " + method.getName() + inside);
            }
        }
        due.yes("the methods " + shown, shown.equals(new TreeSet<>(Arrays.asList(FACE))));
        for (String method : shown) {
            due.no("a private method has the name of " + method,
                hidden.contains(method.substring(method.indexOf(' ') + 1, method.indexOf('('))));
        }
        Constructor<?>[] constructors = FoldedProof.class.getDeclaredConstructors();
        due.is("constructors", constructors.length, 1);
        due.yes("the constructor", Modifier.isPublic(constructors[0].getModifiers())
            && constructors[0].getParameterCount() == 0);
        for (Field field : FoldedProof.class.getDeclaredFields()) {
            boolean isPrivate = Modifier.isPrivate(field.getModifiers());
            due.yes("field " + field.getName(), isPrivate || field.getName().equals("NONE")
                && field.getModifiers() == (Modifier.PUBLIC | Modifier.STATIC | Modifier.FINAL)
                && field.getType() == int.class);
        }
        for (Class<?> inside : FoldedProof.class.getDeclaredClasses()) {
            due.yes(inside.getName() + " is private", Modifier.isPrivate(inside.getModifiers()));
        }
        due.is("NONE", FoldedProof.NONE, -1);
        due.end();
    }
}
