import java.io.IOException;
import java.lang.reflect.Constructor;
import java.lang.reflect.Field;
import java.lang.reflect.Method;
import java.lang.reflect.Modifier;
import java.nio.file.Files;
import java.nio.file.Path;
import java.util.Set;
import java.util.TreeSet;

/** The public face is the document's, and nothing else can be seen (LANGUAGE.md, rules 1 and 5). */
public final class FaceTest {
    private static final Path DOCUMENT = Path.of("..", "shared", "DOC.md");
    private static final String FACE = """
            public final class OutputBook {
                public static final int NONE = -1;
                public OutputBook(int depth);
                public boolean spend(int number);
                public boolean make(int owner, long amount, long tag);
                public void mint(long amount);
                public void drop();
                public long apply();
                public int close();
                public int undo(int n);
                public int output(int number, int what);
                public long amount(int number);
                public long tag(int number);
                public long balance(int owner);
                public int count(int owner);
                public int nth(int owner, int i);
                public int gather(int owner, long amount);
                public long look(int which);
            }
            """;

    public static void main(String[] args) {
        theFaceHereIsTheDocuments();
        Check.due("the face", seen(OutputBook.class).toString(), wanted().toString());
        Check.due("NONE", OutputBook.NONE, -1);
        Check.due("extends", OutputBook.class.getSuperclass().getName(), "java.lang.Object");
        Check.due("interfaces", OutputBook.class.getInterfaces().length, 0);
        keepsToItself(OutputBook.class);
        for (Class<?> inside : OutputBook.class.getDeclaredClasses()) {
            int modifiers = inside.getModifiers();
            Check.due("static: " + inside, Modifier.isStatic(modifiers), true);
            Check.due("public or protected: " + inside, modifiers & (Modifier.PUBLIC | Modifier.PROTECTED), 0);
            keepsToItself(inside);
        }
        Check.end();
    }

    private static void theFaceHereIsTheDocuments() {
        try {
            String text = Files.readString(DOCUMENT);
            Check.due("the document's face stands in this test", text.contains("```java\n" + FACE + "```"), true);
        } catch (IOException notThere) {
            System.out.println("can't read " + DOCUMENT + ": the face is not held against it");
        }
    }

    /** Parameters' names and the constant's value are no part of what the compiled class tells. */
    private static Set<String> wanted() {
        Set<String> wanted = new TreeSet<>();
        for (String line : FACE.split("\n")) {
            wanted.add(line.strip().replaceAll(" = -1|;$| \\{$", "").replaceAll(" \\w+(?=[,)])", "").replace(", ", ","));
        }
        wanted.remove("}");
        return wanted;
    }

    private static Set<String> seen(Class<?> book) {
        Set<String> seen = new TreeSet<>();
        seen.add(Modifier.toString(book.getModifiers()) + " class " + book.getName());
        for (Constructor<?> one : book.getDeclaredConstructors()) {
            see(seen, one.getModifiers(), one.toGenericString());
        }
        for (Field one : book.getDeclaredFields()) {
            see(seen, one.getModifiers(), one.toGenericString());
        }
        for (Method one : book.getDeclaredMethods()) {
            see(seen, one.getModifiers(), one.toGenericString());
        }
        return seen;
    }

    private static void see(Set<String> seen, int modifiers, String text) {
        if (!Modifier.isPrivate(modifiers)) {
            seen.add(text.replace("OutputBook.", ""));
        }
    }

    /** No name of the face is used for anything hidden, and no static field can change. */
    private static void keepsToItself(Class<?> owner) {
        for (Method one : owner.getDeclaredMethods()) {
            if (owner != OutputBook.class || Modifier.isPrivate(one.getModifiers())) {
                Check.due("a name of the face: " + one, FACE.contains(" " + one.getName() + "("), false);
            }
        }
        for (Field one : owner.getDeclaredFields()) {
            if (Modifier.isStatic(one.getModifiers())) {
                Check.due("final: " + one, Modifier.isFinal(one.getModifiers()), true);
            }
        }
    }
}
