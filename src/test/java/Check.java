import java.util.function.Supplier;
import java.util.function.ToLongFunction;

/**
 * Counts tests and their checks, tells every answer that is not the one that is due, and ends the program with exit
 * code 1 if a test failed. A test goes from its part(..) or sentence(..) to the next one.
 */
final class Check {
    static final int INVALID = -1000001;
    static final int IMPOSSIBLE = -1000002;
    static final int LIMIT = -1000003;
    static final int MISSING = -1000004;

    private static int tests = 0;
    private static int failed = 0;
    private static String name = "";
    private static int checks = 0;
    private static int wrong = 0;

    private Check() {
    }

    /** Begins a test. */
    static void part(String newName) {
        close();
        name = newName;
    }

    /** Begins the test of a sentence of the document, which is looked up under the head. */
    static void sentence(String head, String words) {
        part(head + ", \"" + words + "\"");
        if (!Document.mark(head, words)) {
            wrong++;
            System.out.println("   the document has no such words there: " + name);
        }
    }

    private static void close() {
        if (name.isEmpty()) {
            return;
        }
        boolean bad = wrong != 0 || checks == 0;
        tests++;
        failed += bad ? 1 : 0;
        System.out.println("   " + (bad ? "FAILED " : "passed ") + name);
        name = "";
        checks = 0;
        wrong = 0;
    }

    static void due(String call, long got, long want) {
        checks++;
        if (got != want) {
            wrong++;
            System.out.println("   " + name + ": " + call + " answered " + got + ", due is " + want);
        }
    }

    static void due(String call, String got, String want) {
        checks++;
        if (!got.equals(want)) {
            wrong++;
            System.out.println("   " + name + ": " + call + " answered " + got + ", due is " + want);
        }
    }

    /** .ci/run reads the numbers of this line. */
    static void end() {
        close();
        System.out.println("   " + tests + " tests: " + (tests - failed) + " passed, " + failed + " failed");
        if (failed != 0 || tests == 0) {
            System.exit(1);
        }
    }

    /** Types a text in place of the one that there is. */
    static void write(TriggerConditions x, String text) {
        x.clearText();
        for (int i = 0; i < text.length(); i++) {
            x.type(text.charAt(i));
        }
    }

    /** Everything that the calls tell without a change, but for the text: some 180 calls. */
    static String look(TriggerConditions x) {
        StringBuilder seen = new StringBuilder();
        for (int what : new int[] {0, 1, 2, 3, 4, 5, 20, 21}) {
            seen.append(x.count(what)).append(' ');
        }
        for (int stage = 0; stage < 5; stage++) {
            for (int what = 0; what < 4; what++) {
                seen.append(x.stageOf(stage, what)).append(' ');
            }
        }
        for (int condition = 0; condition < x.count(0); condition++) {
            seen.append("| ");
            for (int what = 0; what < 12; what++) {
                seen.append(x.conditionOf(condition, what)).append(' ');
            }
        }
        return seen.toString();
    }

    /** What look(..) does not see: the text, and the states of the history, which are undone; the latest one whole. */
    private static String lookBehind(TriggerConditions x) {
        StringBuilder seen = new StringBuilder();
        seen.append(x.count(6)).append(' ').append(x.count(7)).append(' ');
        for (int what = 0; what < 3; what++) {
            seen.append(x.fault(what)).append(' ');
        }
        seen.append(x.undo()).append(' ').append(look(x));
        for (int i = 0; i < 3; i++) {
            seen.append(x.undo()).append(' ').append(x.count(0)).append(' ').append(x.count(1)).append(' ').append(x.which(3));
        }
        return seen.toString();
    }

    /** A call that answers a number and leaves everything, the text and the history too, as it is. */
    static void still(String call, Supplier<TriggerConditions> made, ToLongFunction<TriggerConditions> asked, long answer) {
        TriggerConditions x = made.get();
        TriggerConditions untouched = made.get();
        due(call, asked.applyAsLong(x), answer);
        due("all behind " + call, look(x), look(untouched));
        due("text and history behind " + call, lookBehind(x), lookBehind(untouched));
    }
}
