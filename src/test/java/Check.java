/** Counts checks, tells every answer that is not the one that is due, and ends the test with exit code 1 if there was one. */
final class Check {
    static final int INVALID = -1000001;
    static final int IMPOSSIBLE = -1000002;
    static final int LIMIT = -1000003;
    static final int MISSING = -1000004;

    private static int checks = 0;
    private static int wrong = 0;
    private static String where = "";

    private Check() {
    }

    static void part(String name) {
        where = name;
        System.out.println("   " + name);
    }

    static void due(String call, long got, long want) {
        checks++;
        if (got != want) {
            wrong++;
            System.out.println("   " + where + ": " + call + " answered " + got + ", due is " + want);
        }
    }

    static void due(String call, String got, String want) {
        checks++;
        if (!got.equals(want)) {
            wrong++;
            System.out.println("   " + where + ": " + call + " answered " + got + ", due is " + want);
        }
    }

    static void end() {
        System.out.println("   " + checks + " checks, " + wrong + " wrong");
        if (wrong != 0 || checks == 0) {
            System.exit(1);
        }
    }

    /** Types a text in place of the one that there is. */
    static void write(TriggerConditions x, String text) {
        x.clearText();
        for (int i = 0; i < text.length(); i++) {
            x.type(text.charAt(i));
        }
    }

    /** Everything that the calls tell without a change, but for the text: some 180 calls. */
    static String look(TriggerConditions x) {
        StringBuilder seen = new StringBuilder();
        for (int what : new int[] {0, 1, 2, 3, 4, 5, 20, 21}) {
            seen.append(x.count(what)).append(' ');
        }
        for (int stage = 0; stage < 5; stage++) {
            for (int what = 0; what < 4; what++) {
                seen.append(x.stageOf(stage, what)).append(' ');
            }
        }
        for (int condition = 0; condition < x.count(0); condition++) {
            seen.append("| ");
            for (int what = 0; what < 12; what++) {
                seen.append(x.conditionOf(condition, what)).append(' ');
            }
        }
        return seen.toString();
    }
}
