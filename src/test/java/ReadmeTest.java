import java.io.IOException;
import java.lang.reflect.InvocationTargetException;
import java.lang.reflect.Method;
import java.nio.file.Files;
import java.nio.file.Path;
import java.util.HashMap;
import java.util.HashSet;
import java.util.Map;
import java.util.Set;
import java.util.regex.Matcher;
import java.util.regex.Pattern;

/** README.md shows every call once at least, and each answers what stands behind it there. */
public final class ReadmeTest {
    private static final Pattern CALL =
            Pattern.compile("    (?:int (\\w+) = )?book\\.(\\w+)\\((.*?)\\);(?:\\s+// ([\\w-]+).*)?");

    private final ArmsBook book = new ArmsBook();
    private final Map<String, Integer> named = new HashMap<>();
    private final Set<String> shown = new HashSet<>();

    private ReadmeTest() {
        named.put("ArmsBook.NONE", ArmsBook.NONE);
    }

    public static void main(String[] args) throws IOException, ReflectiveOperationException {
        ReadmeTest test = new ReadmeTest();
        for (String line : Files.readAllLines(Path.of("README.md"))) {
            Matcher call = CALL.matcher(line);
            if (call.matches()) {
                test.make(call);
            } else if (line.contains("book.")) {
                Due.report("not a call: " + line);
            }
        }
        for (Method method : ArmsBook.class.getMethods()) {
            if (method.getDeclaringClass() == ArmsBook.class) {
                Due.is(method.getName() + " is shown", test.shown.contains(method.getName()), true);
            }
        }
        Due.finish();
    }

    private void make(Matcher call) throws ReflectiveOperationException {
        String[] words = call.group(3).isEmpty() ? new String[0] : call.group(3).split(", ");
        Object[] values = new Object[words.length];
        for (int i = 0; i < words.length; i++) {
            values[i] = value(words[i]);
        }
        shown.add(call.group(2));
        Object answer = answer(call.group(2), values);
        Due.is(call.group().trim(), answer.toString(), String.valueOf(call.group(4)));
        if (call.group(1) != null && answer instanceof Integer number) {
            named.put(call.group(1), number);
        }
    }

    private Object value(String word) {
        if (word.equals("true") || word.equals("false")) {
            return Boolean.valueOf(word);
        }
        return named.containsKey(word) ? named.get(word) : Integer.decode(word);
    }

    private Object answer(String name, Object[] values) throws ReflectiveOperationException {
        for (Method method : ArmsBook.class.getMethods()) {
            if (method.getName().equals(name) && method.getParameterCount() == values.length) {
                try {
                    return method.invoke(book, values);
                } catch (InvocationTargetException e) {
                    return e.getCause().getClass().getSimpleName();
                }
            }
        }
        return "no such call";
    }
}
