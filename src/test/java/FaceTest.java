import java.lang.reflect.Constructor;
import java.lang.reflect.Field;
import java.lang.reflect.Method;
import java.lang.reflect.Modifier;
import java.util.Arrays;
import java.util.Set;
import java.util.TreeSet;

/** The public face, as the document writes it, and no other member that can be seen (rule 1). */
public final class FaceTest {
    private static final String NO_SUCH = " throws NoSuchElementException";
    private static final Set<String> FACE = new TreeSet<>(Arrays.asList(
            "int NONE",
            "ArmsBook()",
            "int person(boolean, int, int)",
            "boolean parent(int, int, int, int)" + NO_SUCH,
            "int grant(int, int, int)" + NO_SUCH,
            "int feed(int, int, int, int, int)",
            "int text(int, int) throws IllegalArgumentException",
            "int fault()",
            "int about(int, int)" + NO_SUCH,
            "int bears(int, int, int)" + NO_SUCH,
            "int mark(int, int, int)" + NO_SUCH,
            "int head(int, int)" + NO_SUCH,
            "int quarter(int, int, int)" + NO_SUCH,
            "int claim(int, int, int)" + NO_SUCH,
            "int fee(int, int)" + NO_SUCH,
            "int rivals(int, int)" + NO_SUCH,
            "int common(int, int)" + NO_SUCH,
            "int copy(int, int)",
            "int of(int, int)" + NO_SUCH,
            "int count(int)" + NO_SUCH));

    public static void main(String[] args) {
        Set<String> seen = new TreeSet<>();
        Set<String> names = new TreeSet<>();
        for (Field field : ArmsBook.class.getDeclaredFields()) {
            if (!Modifier.isPrivate(field.getModifiers())) {
                seen.add(field.getType().getSimpleName() + " " + field.getName());
            }
        }
        for (Constructor<?> made : ArmsBook.class.getDeclaredConstructors()) {
            seen.add("ArmsBook" + list(made.getParameterTypes()));
        }
        for (Method method : ArmsBook.class.getDeclaredMethods()) {
            if (Modifier.isPublic(method.getModifiers())) {
                names.add(method.getName());
            }
            if (!Modifier.isPrivate(method.getModifiers())) {
                seen.add(written(method));
            }
        }
        for (Method method : ArmsBook.class.getDeclaredMethods()) {
            if (Modifier.isPrivate(method.getModifiers())) {
                Due.is("private " + method.getName() + " has a public name", names.contains(method.getName()), false);
            }
        }
        for (String member : FACE) {
            Due.is("the face has " + member, seen.contains(member), true);
        }
        for (String member : seen) {
            Due.is("the document has " + member, FACE.contains(member), true);
        }
        Due.is("final", Modifier.isFinal(ArmsBook.class.getModifiers()), true);
        Due.is("public", Modifier.isPublic(ArmsBook.class.getModifiers()), true);
        Due.is("NONE", ArmsBook.NONE, -1);
        for (Class<?> inside : ArmsBook.class.getDeclaredClasses()) {
            Due.is(inside.getName() + " is static", Modifier.isStatic(inside.getModifiers()), true);
        }
        Due.finish();
    }

    private static String written(Method method) {
        StringBuilder line = new StringBuilder(method.getReturnType().getSimpleName());
        line.append(' ').append(method.getName()).append(list(method.getParameterTypes()));
        for (Class<?> thrown : method.getExceptionTypes()) {
            line.append(" throws ").append(thrown.getSimpleName());
        }
        return line.toString();
    }

    private static String list(Class<?>[] types) {
        StringBuilder line = new StringBuilder("(");
        for (int i = 0; i < types.length; i++) {
            line.append(i == 0 ? "" : ", ").append(types[i].getSimpleName());
        }
        return line.append(')').toString();
    }
}
