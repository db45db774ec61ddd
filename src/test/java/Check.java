/**
 * Counts the answers that are not as due; a test ends with exit code 1 if there was one. A test that
 * is for one line of the document names it, and gives each of its sentences a test of its own: a
 * word of the line that stands in none of them counts as a fault of the test.
 */
final class Check {
    private static DocumentLine line;
    private static String sentence = "";
    private static int looked = 0;
    private static int wrong = 0;

    private Check() {
    }

    static void line(String beginning) {
        line = DocumentLine.thatBegins(beginning);
        due("no line of the document begins with " + beginning, line.isMissing(), false);
    }

    /** An exception that reaches the test is a fault too: the document wants none. */
    static void sentence(String words, Runnable test) {
        int lookedBefore = looked;
        int wrongBefore = wrong;
        sentence = words;
        due("stands once in its line", line.cover(words), true);
        try {
            test.run();
        } catch (RuntimeException thrown) {
            fault("threw " + thrown);
        }
        System.out.println((wrong == wrongBefore ? "  holds:  " : "  BROKEN: ")
                + words + " (" + (looked - lookedBefore) + " answers)");
        sentence = "";
    }

    static void due(String call, long got, long want) {
        looked++;
        if (got != want) {
            fault(call + " answered " + got + ", due is " + want);
        }
    }

    static void due(String call, boolean got, boolean want) {
        due(call, got ? 1 : 0, want ? 1 : 0);
    }

    static void due(String what, String got, String want) {
        looked++;
        if (!got.equals(want)) {
            fault(what + " is " + got + ", due is " + want);
        }
    }

    static int wrongOnes() {
        return wrong;
    }

    static void end() {
        if (line != null) {
            due("words of the line that have no test", line.wordsLeft(), "");
        }
        System.out.println(looked + " answers, " + wrong + " not as due");
        if (wrong != 0 || looked == 0) {
            System.exit(1);
        }
    }

    private static void fault(String text) {
        wrong++;
        System.out.println(sentence.isEmpty() ? text : "[" + sentence + "] " + text);
    }
}
