import java.io.IOException;
import java.lang.reflect.Constructor;
import java.lang.reflect.Field;
import java.lang.reflect.Method;
import java.lang.reflect.Modifier;
import java.nio.file.Files;
import java.nio.file.Path;
import java.util.ArrayList;
import java.util.List;
import java.util.Set;
import java.util.TreeSet;
import java.util.regex.Matcher;
import java.util.regex.Pattern;

/**
 * LANGUAGE.md, as far as the source and the compiled class show it. It is narrower than the rules
 * where the class does with less: a word that it comes to need, and the rules allow, leaves a list here.
 */
public final class LanguageTest {
    private static final Path SOURCE = Path.of("src", "main", "java", "OutputBook.java");
    private static final Set<String> LIBRARY = Set.of("Math.max", "Math.min");
    private static final Set<Class<?>> TYPES = Set.of(
            int.class, long.class, boolean.class, void.class, int[].class, long[].class);

    public static void main(String[] args) throws IOException {
        String code = Files.readString(SOURCE).replaceAll("(?s)/\\*.*?\\*/", "").replaceAll("//.*", "");
        hasNone(code, "rule 1", "\\bpackage\\b", "\\bprotected\\b");
        hasNone(code, "rule 2", "->", "::", "new \\w+\\(.*\\) *\\{");
        hasNone(code, "rule 3", "\\bdouble\\b", "\\bfloat\\b", "\\bObject\\b");
        hasNone(code, "rule 4", "\\bimport\\b", "\\bjava\\.", "Exact\\(");
        hasNone(code, "rule 5", "static *\\{");
        hasNone(code, "rule 6", "\\b(try|catch|finally|throw|throws|synchronized|assert|instanceof)\\b");
        hasNone(code, "rule 7", "[^/]/[^/]", "%", "\\((int|long|short|byte|char)\\)");
        hasNone(code, "rule 9", "while *\\(true\\)", "for *\\(;;\\)");
        hasNone(code, "rule 13", "\\b(System|Thread|Random|Runtime|Class)\\b");
        callsNoOtherLibrary(code);
        makesObjectsInConstructorsAlone(code);
        staysSmall();
        Check.end();
    }

    private static void hasNone(String code, String rule, String... patterns) {
        for (String pattern : patterns) {
            Matcher found = Pattern.compile(pattern).matcher(code);
            Check.due(rule + ": " + pattern + " stands in the code", found.find(), false);
        }
    }

    private static void callsNoOtherLibrary(String code) {
        Matcher call = Pattern.compile("\\b([A-Z][a-z]\\w*\\.\\w+)").matcher(code);
        while (call.find()) {
            Check.due("rule 4: " + call.group(1) + " is in the library's list", LIBRARY.contains(call.group(1)), true);
        }
    }

    /** All that a book needs is made with it, so that no run of calls fills the room. */
    private static void makesObjectsInConstructorsAlone(String code) {
        Pattern inField = Pattern.compile("private final .*");
        Pattern inConstructor = Pattern.compile("(outputs|draft|blocks|supplies|pots|applieds) = .*");
        for (String line : code.split("\n")) {
            String text = line.strip();
            if (text.matches(".*\\bnew\\b.*")) {
                boolean fine = inField.matcher(text).matches() || inConstructor.matcher(text).matches();
                Check.due("rule 12: made with the book: " + text, fine, true);
            }
        }
    }

    private static void staysSmall() {
        List<Class<?>> classes = new ArrayList<>(List.of(OutputBook.class.getDeclaredClasses()));
        Check.due("rule 11: classes are at most 12", classes.size() < 12, true);
        classes.add(OutputBook.class);
        for (Class<?> one : classes) {
            hasFewFields(one, classes);
            for (Method method : one.getDeclaredMethods()) {
                Check.due("rule 11: parameters of " + method, method.getParameterCount() <= 7, true);
                Check.due("rule 3: answer of " + method, TYPES.contains(method.getReturnType()), true);
                Check.due("made by the compiler: " + method, method.isSynthetic(), false);
            }
            for (Constructor<?> constructor : one.getDeclaredConstructors()) {
                Check.due("rule 11: parameters of " + constructor, constructor.getParameterCount() <= 7, true);
            }
        }
    }

    private static void hasFewFields(Class<?> one, List<Class<?>> own) {
        Set<String> fields = new TreeSet<>();
        for (Field field : one.getDeclaredFields()) {
            Check.due("rule 3: " + field, TYPES.contains(field.getType()) || own.contains(field.getType()), true);
            if (!Modifier.isStatic(field.getModifiers())) {
                fields.add(field.getName());
            }
        }
        Check.due("rule 11: fields of " + one + " are at most 20", fields.size() <= 20, true);
    }
}
