import java.io.IOException;
import java.lang.reflect.Constructor;
import java.lang.reflect.Field;
import java.lang.reflect.Method;
import java.lang.reflect.Modifier;
import java.nio.file.Files;
import java.nio.file.Path;
import java.util.ArrayList;
import java.util.List;
import java.util.Set;
import java.util.regex.Matcher;
import java.util.regex.Pattern;

/** The rules of ../shared/LANGUAGE.md that can be seen from the class's text and its members. */
public final class LanguageTest {
    private static final Path SOURCE = Path.of("src/main/java/ArmsBook.java");
    private static final Set<String> IMPORTS = Set.of("java.util.ArrayList", "java.util.Arrays",
            "java.util.Iterator", "java.util.List", "java.util.NoSuchElementException");
    private static final Set<String> CONSTANTS = Set.of("int", "long", "boolean", "char", "String",
            "int[]", "long[]", "char[]", "byte[]");
    private static final String[] NEVER = {
        "\\btry\\b", "\\bcatch\\b", "\\bfinally\\b", "\\bsynchronized\\b", "\\bassert\\b", "->", "::",
        "\\bstatic \\{", "\\bvolatile\\b", "\\bnative\\b", "\\bSystem\\.(?!arraycopy)", "Exact\\(",
        "\\bThread\\b", "\\bRandom\\b", "\\bhashCode\\b", "\\btoString\\b", "\\bpackage\\b",
        "\\bdouble\\b", "\\bfloat\\b", "\" \\+", "\\+ \""
    };
    private static final Pattern THROW = Pattern.compile(
            "throw new (IllegalArgumentException|NoSuchElementException)\\(\"[^\"]*\"\\);");
    private static final Pattern METHOD = Pattern.compile("^( {4}| {8})[^ }].*\\) (throws \\w+ )?\\{$");

    private LanguageTest() {
    }

    public static void main(String[] args) throws IOException {
        List<String> lines = Files.readAllLines(SOURCE);
        words(lines);
        lengths(lines);
        members();
        Due.finish();
    }

    private static String withoutComment(String line) {
        String code = line.trim();
        if (code.startsWith("*") || code.startsWith("/*")) {
            return "";
        }
        int comment = code.indexOf("//");
        return comment < 0 ? code : code.substring(0, comment);
    }

    private static void words(List<String> lines) {
        for (String line : lines) {
            String code = withoutComment(line);
            for (String word : NEVER) {
                Due.is(word + " in: " + code, Pattern.compile(word).matcher(code).find(), false);
            }
            Due.is("signs beyond 127 in: " + code, code.chars().anyMatch(sign -> sign > 127), false);
            if (code.startsWith("import ")) {
                Due.is(code, IMPORTS.contains(code.substring(7, code.length() - 1)), true);
            }
            if (code.contains("throw ")) {
                Due.is("rule 6: " + code, THROW.matcher(code).matches(), true);
            }
        }
    }

    /** Rule 11: no method of more than sixty lines. */
    private static void lengths(List<String> lines) {
        int methods = 0;
        for (int i = 0; i < lines.size(); i++) {
            Matcher head = METHOD.matcher(lines.get(i));
            if (head.matches()) {
                int end = i;
                while (end < lines.size() && !lines.get(end).equals(head.group(1) + "}")) {
                    end++;
                }
                Due.is("lines of " + lines.get(i).trim(), end - i < 60, true);
                methods++;
            }
        }
        Due.is("methods are found", methods > 50, true);
    }

    private static void members() {
        List<Class<?>> classes = new ArrayList<>(List.of(ArmsBook.class));
        classes.addAll(List.of(ArmsBook.class.getDeclaredClasses()));
        Due.is("at most twelve classes", classes.size() <= 12, true);
        for (Class<?> one : classes) {
            fields(one);
            for (Method method : one.getDeclaredMethods()) {
                Due.is("parameters of " + method, method.getParameterCount() <= 7, true);
            }
            for (Constructor<?> made : one.getDeclaredConstructors()) {
                Due.is("parameters of " + made, made.getParameterCount() <= 7, true);
            }
        }
    }

    private static void fields(Class<?> one) {
        int own = 0;
        for (Field field : one.getDeclaredFields()) {
            if (Modifier.isStatic(field.getModifiers())) {
                Due.is(field + " is final", Modifier.isFinal(field.getModifiers()), true);
                Due.is(field + " is a constant", CONSTANTS.contains(field.getType().getSimpleName()), true);
            } else {
                own++;
            }
        }
        Due.is("at most twenty fields in " + one, own <= 20, true);
    }
}
