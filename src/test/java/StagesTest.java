/** Promises 1 to 4. */
public final class StagesTest {
    public static void main(String[] args) {
        newObject();
        condition();
        conditionErrors();
        begin();
        beginErrors();
        finish();
        Check.end();
    }

    private static void newObject() {
        Check.part("promise 1: a new object");
        TriggerConditions x = new TriggerConditions();
        for (int what = 0; what <= 7; what++) {
            Check.due("count(" + what + ")", x.count(what), 0);
        }
        Check.due("setting 0", x.count(20), 56);
        Check.due("setting 1", x.count(21), 100);
        for (int state = 0; state <= 4; state++) {
            Check.due("which(" + state + ")", x.which(state), 0);
        }
        for (int stage = 0; stage <= 4; stage++) {
            Check.due("stageOf 0", x.stageOf(stage, 0), 0);
            Check.due("stageOf 1", x.stageOf(stage, 1), Check.MISSING);
            Check.due("stageOf 2", x.stageOf(stage, 2), Check.MISSING);
            Check.due("stageOf 3", x.stageOf(stage, 3), 0);
        }
        Check.due("undo", x.undo(), Check.IMPOSSIBLE);
        Check.due("fault", x.fault(0), Check.MISSING);
        TriggerConditions other = new TriggerConditions();
        other.condition(0, 0, 0, 1);
        Check.due("objects are apart", x.count(0), 0);
    }

    private static void condition() {
        Check.part("promise 2: condition");
        TriggerConditions x = new TriggerConditions();
        Check.due("least", x.condition(0, 0, 0, 1), 0);
        Check.due("most", x.condition(1, 4, 365, 6), 1);
        Check.due("kind 2, least days", x.condition(2, 2, 1, 1), 2);
        Check.due("kind 2, most days", x.condition(2, 3, 365, 6), 3);
        Check.due("kind 1, no days", x.condition(1, 0, 0, 3), 4);
        int[][] due = {{0, 0, 0, 1, 1}, {1, 4, 365, 6, 0}, {2, 2, 1, 1, 0}, {2, 3, 365, 6, 0}, {1, 0, 0, 3, 0}};
        for (int c = 0; c < due.length; c++) {
            for (int what = 0; what < 5; what++) {
                Check.due("conditionOf(" + c + ", " + what + ")", x.conditionOf(c, what), due[c][what]);
            }
            Check.due("approved", x.conditionOf(c, 5), 0);
            Check.due("applied for", x.conditionOf(c, 6), 0);
            Check.due("for days", x.conditionOf(c, 7), Check.MISSING);
            Check.due("clock", x.conditionOf(c, 8), 0);
            Check.due("age", x.conditionOf(c, 9), Check.MISSING);
            Check.due("notice", x.conditionOf(c, 10), Check.MISSING);
            Check.due("overdue", x.conditionOf(c, 11), 0);
        }
        Check.due("one state each", x.count(6), 4);
    }

    private static void conditionErrors() {
        Check.part("promise 2: its errors and their order");
        TriggerConditions x = new TriggerConditions();
        int[][] bad = {{-1, 0, 0, 1}, {3, 0, 0, 1}, {0, -1, 0, 1}, {0, 5, 0, 1}, {0, 0, -1, 1}, {1, 0, 366, 1},
            {2, 0, 0, 1}, {2, 0, 366, 1}, {0, 0, 0, 0}, {0, 0, 0, 7}, {2, 0, 1, 0}, {2, 0, 1, 7},
            {Integer.MIN_VALUE, 0, 0, 1}, {0, Integer.MAX_VALUE, 0, 1}, {0, 0, Integer.MIN_VALUE, 1},
            {0, 0, 0, Integer.MAX_VALUE}};
        for (int[] b : bad) {
            Check.due("bad argument", x.condition(b[0], b[1], b[2], b[3]), Check.INVALID);
        }
        Check.due("nothing added", x.count(0), 0);
        Check.due("nothing recorded", x.count(6), 0);
        x.begin(0);
        Check.due("begun", x.condition(0, 0, 0, 1), Check.IMPOSSIBLE);
        Check.due("begun and a bad argument", x.condition(0, 0, 0, 7), Check.INVALID);
        x.finish(0);
        Check.due("finished", x.condition(1, 0, 0, 1), Check.IMPOSSIBLE);
        for (int i = 0; i < 10; i++) {
            Check.due("number", x.condition(i % 3, 1, 1, 1), i);
        }
        Check.due("an eleventh", x.condition(0, 1, 0, 1), Check.LIMIT);
        Check.due("an eleventh, begun", x.condition(0, 0, 0, 1), Check.IMPOSSIBLE);
        Check.due("an eleventh, bad argument", x.condition(0, 1, 0, 0), Check.INVALID);
        Check.due("ten", x.count(0), 10);
    }

    private static void begin() {
        Check.part("promise 3: begin");
        TriggerConditions x = new TriggerConditions();
        x.condition(0, 0, 0, 1);
        x.condition(0, 0, 0, 2);
        x.condition(1, 0, 0, 1);
        x.condition(2, 0, 1, 1);
        x.condition(0, 1, 0, 1);
        x.condition(0, 0, 0, 1);
        x.condition(0, 0, 0, 1);
        x.apply(0, 1);
        x.decide(0, 1);
        x.apply(1, 3);
        x.decide(1, 2);
        x.apply(5, 1);
        x.pass(4);
        Check.due("two open, one applied for", x.begin(0), 2 + 32 + 64);
        Check.due("in breach", x.which(3), 2 + 32 + 64);
        Check.due("met", x.which(2), 1);
        Check.due("running", x.which(1), 4 + 16);
        Check.due("asleep", x.which(0), 8);
        Check.due("breaches", x.count(4), 3);
        Check.due("age", x.conditionOf(1, 9), 0);
        Check.due("begun on", x.stageOf(0, 1), 4);
        Check.due("state", x.stageOf(0, 0), 1);
        x.apply(4, 1);
        x.decide(4, 1);
        Check.due("all met", x.begin(1), 0);
        Check.due("the next stage", x.begin(2), 0);
        Check.due("behind a finished one", x.finish(2), 0);
        Check.due("behind a finished one", x.begin(3), 0);
        Check.due("the last", x.begin(4), 0);
    }

    private static void beginErrors() {
        Check.part("promise 3: its errors");
        TriggerConditions x = new TriggerConditions();
        int[] bad = {-1, 5, Integer.MIN_VALUE, Integer.MAX_VALUE};
        for (int b : bad) {
            Check.due("begin(" + b + ")", x.begin(b), Check.INVALID);
        }
        for (int stage = 1; stage < 5; stage++) {
            Check.due("ahead not begun", x.begin(stage), Check.IMPOSSIBLE);
        }
        x.begin(0);
        Check.due("twice", x.begin(0), Check.IMPOSSIBLE);
        Check.due("two ahead", x.begin(2), Check.IMPOSSIBLE);
        x.finish(0);
        Check.due("finished", x.begin(0), Check.IMPOSSIBLE);
        Check.due("nothing recorded", x.count(6), 2);
    }

    private static void finish() {
        Check.part("promise 4: finish");
        TriggerConditions x = new TriggerConditions();
        int[] bad = {-1, 5, Integer.MIN_VALUE, Integer.MAX_VALUE};
        for (int b : bad) {
            Check.due("finish(" + b + ")", x.finish(b), Check.INVALID);
        }
        Check.due("not begun", x.finish(0), Check.IMPOSSIBLE);
        x.pass(3);
        x.begin(0);
        x.pass(7);
        x.begin(1);
        x.pass(5);
        Check.due("the later one first", x.finish(1), 5);
        Check.due("twice", x.finish(1), Check.IMPOSSIBLE);
        Check.due("how long", x.finish(0), 12);
        Check.due("finished on", x.stageOf(0, 2), 15);
        Check.due("begun on", x.stageOf(0, 1), 3);
        Check.due("state", x.stageOf(0, 0), 2);
        x.begin(2);
        Check.due("on the same day", x.finish(2), 0);
        Check.due("the next is not begun", x.finish(3), Check.IMPOSSIBLE);
    }
}
