import java.lang.reflect.Constructor;
import java.lang.reflect.Field;
import java.lang.reflect.Method;
import java.lang.reflect.Modifier;
import java.util.Arrays;
import java.util.Set;
import java.util.TreeSet;

/** The public face is the document's, and nothing else can be seen (LANGUAGE.md, rules 1 and 5). */
public final class FaceTest {
    private static final String[] FACE = {
        "public OutputBook(int)",
        "public boolean OutputBook.make(int,long,long)",
        "public boolean OutputBook.spend(int)",
        "public int OutputBook.close()",
        "public int OutputBook.count(int)",
        "public int OutputBook.gather(int,long)",
        "public int OutputBook.nth(int,int)",
        "public int OutputBook.output(int,int)",
        "public int OutputBook.undo(int)",
        "public long OutputBook.amount(int)",
        "public long OutputBook.apply()",
        "public long OutputBook.balance(int)",
        "public long OutputBook.look(int)",
        "public long OutputBook.tag(int)",
        "public static final int OutputBook.NONE",
        "public void OutputBook.drop()",
        "public void OutputBook.mint(long)",
    };

    public static void main(String[] args) {
        Class<?> book = OutputBook.class;
        Set<String> seen = new TreeSet<>();
        Set<String> publicNames = new TreeSet<>();
        for (Constructor<?> one : book.getDeclaredConstructors()) {
            see(seen, one.getModifiers(), one.toString());
        }
        for (Field one : book.getDeclaredFields()) {
            see(seen, one.getModifiers(), one.toString());
        }
        for (Method one : book.getDeclaredMethods()) {
            see(seen, one.getModifiers(), one.toString());
            if (Modifier.isPublic(one.getModifiers())) {
                publicNames.add(one.getName());
            }
        }
        Check.due("the face", seen.toString(), new TreeSet<>(Arrays.asList(FACE)).toString());
        Check.due("the class", Modifier.toString(book.getModifiers()), "public final");
        for (Method one : book.getDeclaredMethods()) {
            privateNamesAreTheirOwn(one, publicNames);
        }
        staticFieldsAreFinal(book);
        for (Class<?> inside : book.getDeclaredClasses()) {
            Check.due("static: " + inside, Modifier.isStatic(inside.getModifiers()), true);
            for (Method one : inside.getDeclaredMethods()) {
                privateNamesAreTheirOwn(one, publicNames);
            }
            staticFieldsAreFinal(inside);
        }
        Check.end();
    }

    private static void see(Set<String> seen, int modifiers, String text) {
        if (!Modifier.isPrivate(modifiers)) {
            seen.add(text);
        }
    }

    private static void privateNamesAreTheirOwn(Method one, Set<String> publicNames) {
        if (!Modifier.isPublic(one.getModifiers())) {
            Check.due("a name of the face: " + one, publicNames.contains(one.getName()), false);
        }
    }

    private static void staticFieldsAreFinal(Class<?> owner) {
        for (Field one : owner.getDeclaredFields()) {
            if (Modifier.isStatic(one.getModifiers())) {
                Check.due("final: " + one, Modifier.isFinal(one.getModifiers()), true);
            }
        }
    }
}
