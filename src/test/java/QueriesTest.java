/** Promises 13 to 15. */
public final class QueriesTest {
    public static void main(String[] args) {
        conditionOf();
        conditionOfErrors();
        stageOf();
        stageOfErrors();
        which();
        Check.end();
    }

    private static void all(TriggerConditions x, int condition, int[] due) {
        for (int what = 0; what < due.length; what++) {
            Check.due("conditionOf(" + condition + ", " + what + ")", x.conditionOf(condition, what), due[what]);
        }
    }

    private static void conditionOf() {
        Check.part("promise 13: conditionOf");
        final int none = Check.MISSING;
        TriggerConditions x = new TriggerConditions();
        x.condition(0, 1, 7, 4);
        x.condition(1, 0, 20, 3);
        x.condition(2, 0, 30, 2);
        all(x, 0, new int[] {0, 1, 7, 4, 1, 0, 0, none, 0, none, none, 0});
        all(x, 1, new int[] {1, 0, 20, 3, 0, 0, 0, none, 0, none, none, 0});
        all(x, 2, new int[] {2, 0, 30, 2, 0, 0, 0, none, 0, none, none, 0});
        x.begin(0);
        x.finish(0);
        x.pass(2);
        x.apply(1, 6);
        x.pass(3);
        all(x, 0, new int[] {0, 1, 7, 4, 1, 0, 0, none, 0, none, none, 0});
        all(x, 1, new int[] {1, 0, 20, 3, 1, 0, 6, 3, 2, none, none, 0});
        all(x, 2, new int[] {2, 0, 30, 2, 1, 0, 0, none, 5, none, none, 0});
        x.begin(1);
        x.lapse(2);
        x.decide(1, 4);
        x.pass(1);
        x.serve(0, 3);
        x.serve(2, 1);
        all(x, 0, new int[] {0, 1, 7, 4, 3, 0, 0, none, 0, 1, 3, 0});
        all(x, 1, new int[] {1, 0, 20, 3, 1, 4, 0, none, 3, none, none, 0});
        all(x, 2, new int[] {2, 0, 30, 2, 3, 0, 0, none, 5, 1, 1, 0});
        x.pass(2);
        x.apply(0, 15);
        all(x, 0, new int[] {0, 1, 7, 4, 3, 0, 15, 0, 0, 3, 1, 0});
        all(x, 2, new int[] {2, 0, 30, 2, 3, 0, 0, none, 5, 3, 0, 1});
        x.decide(0, 15);
        x.cure(2);
        all(x, 0, new int[] {0, 1, 7, 4, 2, 15, 0, none, 0, none, none, 0});
        all(x, 2, new int[] {2, 0, 30, 2, 1, 0, 0, none, 5, none, none, 1});
        Check.due("asking is no change", x.count(6), 4);
    }

    private static void conditionOfErrors() {
        Check.part("promise 13: its errors");
        TriggerConditions x = new TriggerConditions();
        Check.due("no condition", x.conditionOf(0, 0), Check.INVALID);
        x.condition(0, 0, 0, 1);
        int[][] bad = {{-1, 0}, {1, 0}, {9, 0}, {10, 0}, {0, -1}, {0, 12}, {1, 7}, {-1, 9}, {10, 10},
            {Integer.MIN_VALUE, 0}, {Integer.MAX_VALUE, 0}, {0, Integer.MIN_VALUE}, {0, Integer.MAX_VALUE}};
        for (int[] b : bad) {
            Check.due("conditionOf(" + b[0] + ", " + b[1] + ")", x.conditionOf(b[0], b[1]), Check.INVALID);
        }
    }

    private static void stageOf() {
        Check.part("promise 14: stageOf");
        TriggerConditions x = new TriggerConditions();
        x.condition(0, 0, 0, 1);
        x.condition(0, 0, 0, 2);
        x.condition(1, 0, 9, 1);
        x.condition(2, 0, 9, 1);
        x.condition(0, 1, 0, 1);
        Check.due("kind 0 of this stage", x.stageOf(0, 3), 3);
        Check.due("kind 0 of this stage", x.stageOf(1, 3), 16);
        Check.due("none", x.stageOf(4, 3), 0);
        x.apply(0, 1);
        x.apply(1, 3);
        Check.due("applied for is not approved", x.stageOf(0, 3), 3);
        x.decide(0, 1);
        x.decide(1, 2);
        Check.due("not all", x.stageOf(0, 3), 2);
        x.pass(2);
        x.begin(0);
        Check.due("begun", x.stageOf(0, 0), 1);
        Check.due("on", x.stageOf(0, 1), 2);
        Check.due("not finished", x.stageOf(0, 2), Check.MISSING);
        Check.due("in breach", x.stageOf(0, 3), 2);
        x.pass(100);
        Check.due("immune", x.conditionOf(1, 4), 4);
        Check.due("immune too", x.stageOf(0, 3), 2);
        x.finish(0);
        Check.due("finished", x.stageOf(0, 0), 2);
        Check.due("begun on", x.stageOf(0, 1), 2);
        Check.due("finished on", x.stageOf(0, 2), 102);
        x.apply(1, 1);
        x.decide(1, 1);
        Check.due("immune, but approved", x.stageOf(0, 3), 0);
        TriggerConditions y = new TriggerConditions();
        y.begin(0);
        Check.due("on day 0", y.stageOf(0, 1), 0);
        y.finish(0);
        Check.due("on day 0", y.stageOf(0, 2), 0);
    }

    private static void stageOfErrors() {
        Check.part("promise 14: its errors");
        TriggerConditions x = new TriggerConditions();
        int[][] bad = {{-1, 0}, {5, 0}, {0, -1}, {0, 4}, {5, 1}, {-1, 2},
            {Integer.MIN_VALUE, 0}, {Integer.MAX_VALUE, 0}, {0, Integer.MIN_VALUE}, {0, Integer.MAX_VALUE}};
        for (int[] b : bad) {
            Check.due("stageOf(" + b[0] + ", " + b[1] + ")", x.stageOf(b[0], b[1]), Check.INVALID);
        }
    }

    private static void which() {
        Check.part("promise 15: which");
        TriggerConditions x = new TriggerConditions();
        int[] bad = {-1, 5, Integer.MIN_VALUE, Integer.MAX_VALUE};
        for (int b : bad) {
            Check.due("which(" + b + ")", x.which(b), Check.INVALID);
        }
        for (int i = 0; i < 9; i++) {
            x.condition(i % 3, i / 3, 2, 1);
        }
        x.condition(0, 4, 0, 1);
        Check.due("asleep", x.which(0), 0b0110110110);
        Check.due("running", x.which(1), 0b1001001001);
        x.begin(0);
        x.finish(0);
        x.apply(3, 1);
        x.decide(3, 1);
        x.begin(1);
        Check.due("asleep", x.which(0), 0b0110100000);
        Check.due("running", x.which(1), 0b1001010110);
        Check.due("met", x.which(2), 0b0000001000);
        Check.due("in breach", x.which(3), 0b0000000001);
        Check.due("immune", x.which(4), 0);
        x.set(1, 2);
        x.pass(2);
        Check.due("asleep", x.which(0), 0b0110100000);
        Check.due("running", x.which(1), 0b1001010010);
        Check.due("met", x.which(2), 0b0000001100);
        Check.due("in breach", x.which(3), 0);
        Check.due("immune", x.which(4), 0b0000000001);
    }
}
