import java.io.IOException;
import java.lang.reflect.Method;
import java.lang.reflect.Modifier;
import java.nio.file.Files;
import java.nio.file.Path;
import java.util.ArrayList;
import java.util.List;
import java.util.Set;
import java.util.TreeSet;
import java.util.regex.Matcher;
import java.util.regex.Pattern;

/** The calls that README.md shows are made as they stand there, and must answer what is said of them. */
public final class ReadmeTest {
    private static final Pattern MAKING = Pattern.compile("OutputBook book = new OutputBook\\((\\d+)\\);( +//.*)?");
    private static final Pattern CALL = Pattern.compile("book\\.(\\w+)\\(([-\\d, ]*)\\); +// (.*)");
    private static final Pattern ANSWER = Pattern.compile("(true|false|NONE|-?\\d+)(:.*)?");

    private static final Set<String> shown = new TreeSet<>();
    private static OutputBook book;

    public static void main(String[] args) throws IOException, ReflectiveOperationException {
        for (String line : shownLines()) {
            Matcher making = MAKING.matcher(line);
            if (making.matches()) {
                book = new OutputBook(Integer.parseInt(making.group(1)));
            } else {
                holds(line);
            }
        }
        for (Method one : OutputBook.class.getDeclaredMethods()) {
            if (Modifier.isPublic(one.getModifiers())) {
                Check.due("README.md shows " + one.getName(), shown.contains(one.getName()), true);
            }
        }
        Check.end();
    }

    private static List<String> shownLines() throws IOException {
        List<String> found = new ArrayList<>();
        boolean inside = false;
        for (String line : Files.readAllLines(Path.of("README.md"))) {
            if (line.startsWith("```")) {
                inside = line.equals("```java");
            } else if (inside && !line.isBlank()) {
                found.add(line);
            }
        }
        return found;
    }

    private static void holds(String line) throws ReflectiveOperationException {
        Matcher call = CALL.matcher(line);
        Check.due("is a call of a book that was made: " + line, call.matches() && book != null, true);
        if (call.matches() && book != null) {
            Method method = methodOf(call.group(1));
            String got = text(method.invoke(book, arguments(method, call.group(2))));
            Check.due(line + ": the answer", got, said(method, call.group(3)));
            shown.add(method.getName());
        }
    }

    private static Method methodOf(String name) throws NoSuchMethodException {
        for (Method one : OutputBook.class.getMethods()) {
            if (one.getName().equals(name)) {
                return one;
            }
        }
        throw new NoSuchMethodException(name);
    }

    private static Object[] arguments(Method method, String list) {
        String[] texts = list.isBlank() ? new String[0] : list.split(", ");
        Object[] arguments = new Object[texts.length];
        for (int i = 0; i < texts.length; i++) {
            boolean isInt = method.getParameterTypes()[i] == int.class;
            arguments[i] = isInt ? (Object) Integer.valueOf(texts[i]) : (Object) Long.valueOf(texts[i]);
        }
        return arguments;
    }

    private static String text(Object answer) {
        return answer == null ? "nothing" : answer.toString();
    }

    /** What is said of a call that answers nothing is in words alone. */
    private static String said(Method method, String comment) {
        if (method.getReturnType() == void.class) {
            return "nothing";
        }
        Matcher answer = ANSWER.matcher(comment);
        String said = answer.matches() ? answer.group(1) : "not said";
        return said.equals("NONE") ? text(OutputBook.NONE) : said;
    }
}
