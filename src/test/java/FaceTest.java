import java.lang.reflect.Constructor;
import java.lang.reflect.Field;
import java.lang.reflect.Method;
import java.lang.reflect.Modifier;
import java.util.TreeSet;

/** The public face: the constants, the constructor and the methods of the document, and nothing else. */
public final class FaceTest {
    private static final String FACE = "arc(II) begin(I) count(I) end(I) fault(I) feed(IIIII) global(I) halted(I) "
        + "message(II) messages(II) name() nodes(I) print(I) program() run(I) state(II) told(I) undo() weight(III)";

    public static void main(String[] args) {
        Class<?> face = VertexLanguage.class;
        Desk.due("the class is final", Modifier.isFinal(face.getModifiers()), true);
        Desk.due("the class is public", Modifier.isPublic(face.getModifiers()), true);
        Desk.due("BAD", VertexLanguage.BAD, -1);
        Desk.due("NONE", VertexLanguage.NONE, -2);
        Desk.due("FULL", VertexLanguage.FULL, -3);
        Desk.due("FAILED", VertexLanguage.FAILED, -4);
        Desk.due("methods", visibleMethods(face), FACE);
        Desk.due("fields", visibleFields(face), "BAD FAILED FULL NONE");
        Constructor<?>[] makers = face.getDeclaredConstructors();
        Desk.due("constructors", makers.length, 1);
        Desk.due("the constructor is public", Modifier.isPublic(makers[0].getModifiers()), true);
        Desk.due("the constructor's parameters", makers[0].getParameterCount(), 0);
        for (Class<?> inside : face.getDeclaredClasses()) {
            Desk.due(inside + " is static", Modifier.isStatic(inside.getModifiers()), true);
            Desk.due(inside + " is not public", Modifier.isPublic(inside.getModifiers()), false);
        }
        Desk.close();
    }

    private static String visibleMethods(Class<?> face) {
        TreeSet<String> found = new TreeSet<>();
        for (Method method : face.getDeclaredMethods()) {
            if (!Modifier.isPrivate(method.getModifiers()) && !method.isSynthetic()) {
                StringBuilder line = new StringBuilder(method.getName()).append('(');
                for (Class<?> type : method.getParameterTypes()) {
                    line.append(type == int.class ? "I" : "?");
                }
                found.add(line.append(')').toString());
                Desk.due(method + " answers an int", method.getReturnType() == int.class, true);
            }
        }
        return String.join(" ", found);
    }

    private static String visibleFields(Class<?> face) {
        TreeSet<String> found = new TreeSet<>();
        for (Field field : face.getDeclaredFields()) {
            if (!Modifier.isPrivate(field.getModifiers()) && !field.isSynthetic()) {
                found.add(field.getName());
            }
        }
        return String.join(" ", found);
    }
}
