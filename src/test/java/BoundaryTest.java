import java.util.List;

/**
 * A test of its own for each sentence of the document that names a boundary case, and one that looks whether a
 * sentence was left out.
 */
public final class BoundaryTest {
    /** Words of the document that name no boundary case; the signatures are tested by FaceTest. */
    private static final String[][] PLAIN = {
        {"What it is", "Conditions of a permission to build: conditions that have to be met ahead of a stage of the works, within "
            + "some days of it, or kept for some days behind it, discharged in parts by applications that are decided, or count "
            + "as approved if they are not, clocks that stop while an application is open, stages that are begun all the same, "
            + "breaches, notices, days overdue and fines, breaches that become immune, variations, forecasts, and orders as "
            + "texts with places, reasons and causes of faults."},
        {"What it is", "; what later calls answer is free."},
        {"Terms", "All numbers are whole numbers, where no float is told."},
        {"Conditions", "The kinds are:"},
        {"Changes and errors", "The constants:"},
        {"Promise 1", "TriggerConditions():"},
        {"Promise 2", "int condition(int kind, int stage, int days, int parts):"},
        {"Promise 3", "int begin(int stage):"},
        {"Promise 4", "int finish(int stage):"},
        {"Promise 5", "int apply(int condition, int parts):"},
        {"Promise 6", "int decide(int condition, int approved):"},
        {"Promise 7", "int lapse(int condition):"},
        {"Promise 8", "int cure(int condition):"},
        {"Promise 9", "int serve(int condition, int days):"},
        {"Promise 10", "int vary(int condition, int what, int value):"},
        {"Promise 11", "int pass(int days):"},
        {"Promise 12", "int set(int what, int value):"},
        {"Promise 13", "int conditionOf(int condition, int what):"},
        {"Promise 14", "int stageOf(int stage, int what):"},
        {"Promise 15", "int which(int state):"},
        {"Promise 16", "int when(int condition, int state):"},
        {"Promise 17", "int lawful(int stage):"},
        {"Promise 18", "long fine(int condition, long rate):"},
        {"Promise 19", "int share():"},
        {"Promise 20", "int count(int what):"},
        {"Promise 21", "int undo():"},
        {"Promise 22", "int type(int character):"},
        {"Promise 23", "int clearText():"},
        {"Promise 24", "int fault(int what):"},
        {"Promise 25", "int play():"}};

    /** Heads that promise nothing to a call. */
    private static final List<String> FREE = List.of("TriggerConditions", "The public face", "Not promised");

    public static void main(String[] args) {
        TermsBounds.all();
        DayBounds.all();
        ChangesBounds.all();
        StagesBounds.all();
        DischargeBounds.all();
        VaryBounds.all();
        TimeBounds.all();
        QueriesBounds.all();
        ForecastBounds.all();
        HistoryBounds.all();
        TextBounds.all();
        if (Document.isHere()) {
            noSentenceIsLeftOut();
        }
        Check.end();
    }

    private static void noSentenceIsLeftOut() {
        Check.part("no sentence of the document is left out");
        for (String[] plain : PLAIN) {
            Check.due(plain[0] + " has " + plain[1], Document.mark(plain[0], plain[1]) ? 1 : 0, 1);
        }
        for (String head : Document.heads()) {
            if (!FREE.contains(head)) {
                Check.due("no test names of " + head, Document.unmarked(head).toString(), "[]");
            }
        }
        Check.due("heads", Document.heads().contains("Promise 25") ? 1 : 0, 1);
    }
}
