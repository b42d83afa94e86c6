/** Promises 11 and 12, and what a day does. */
public final class TimeTest {
    public static void main(String[] args) {
        pass();
        set();
        approvalByTime();
        clocks();
        clockOfAFinishedStage();
        kept();
        breaches();
        immunity();
        Check.end();
    }

    private static void pass() {
        Check.part("promise 11: pass");
        TriggerConditions x = new TriggerConditions();
        int[] bad = {0, 401, -1, Integer.MIN_VALUE, Integer.MAX_VALUE};
        for (int b : bad) {
            Check.due("pass(" + b + ")", x.pass(b), Check.INVALID);
        }
        Check.due("least", x.pass(1), 1);
        Check.due("most", x.pass(400), 401);
        for (int i = 1; i <= 23; i++) {
            Check.due("on", x.pass(400), 401 + 400 * i);
        }
        Check.due("above the last day", x.pass(399), Check.LIMIT);
        Check.due("nothing passed", x.count(1), 9601);
        Check.due("the last day", x.pass(398), 9999);
        Check.due("above", x.pass(1), Check.LIMIT);
        Check.due("above and out of range", x.pass(401), Check.INVALID);
        Check.due("above and out of range", x.pass(0), Check.INVALID);
        Check.due("the day", x.count(1), 9999);
    }

    private static void set() {
        Check.part("promise 12: set");
        TriggerConditions x = new TriggerConditions();
        int[][] bad = {{-1, 1}, {2, 1}, {0, -1}, {0, 100}, {1, 0}, {1, 366}, {1, -1},
            {Integer.MIN_VALUE, 1}, {Integer.MAX_VALUE, 1}, {0, Integer.MIN_VALUE}, {1, Integer.MAX_VALUE}};
        for (int[] b : bad) {
            Check.due("set(" + b[0] + ", " + b[1] + ")", x.set(b[0], b[1]), Check.INVALID);
        }
        Check.due("first value", x.set(0, 0), 56);
        Check.due("least", x.set(0, 99), 0);
        Check.due("most", x.set(0, 99), 99);
        Check.due("first value", x.set(1, 1), 100);
        Check.due("least", x.set(1, 365), 1);
        Check.due("most", x.count(21), 365);
        Check.due("setting 0", x.count(20), 99);
        Check.due("each one is a change", x.count(6), 4);
        x.undo();
        Check.due("undone", x.count(21), 1);
    }

    private static void approvalByTime() {
        Check.part("a day, step 1: parts count as approved");
        TriggerConditions x = new TriggerConditions();
        x.condition(0, 0, 0, 2);
        x.condition(1, 0, 0, 1);
        x.set(0, 3);
        x.apply(0, 1);
        x.pass(2);
        Check.due("not yet", x.conditionOf(0, 5), 0);
        Check.due("for days", x.conditionOf(0, 7), 2);
        x.set(0, 9);
        x.pass(2);
        Check.due("the setting now, longer", x.conditionOf(0, 5), 0);
        x.set(0, 1);
        Check.due("the setting now, shorter: not at once", x.conditionOf(0, 5), 0);
        x.pass(1);
        Check.due("the setting now, shorter", x.conditionOf(0, 5), 1);
        Check.due("one part", x.count(5), 1);
        x.apply(0, 2);
        x.apply(1, 1);
        x.begin(0);
        Check.due("in breach", x.which(3), 1);
        x.serve(0, 1);
        x.pass(1);
        Check.due("the breach ends by that", x.which(2), 3);
        Check.due("the notice is gone", x.conditionOf(0, 10), Check.MISSING);
        Check.due("not overdue", x.conditionOf(0, 11), 0);
        Check.due("three parts", x.count(5), 3);
    }

    private static void clocks() {
        Check.part("a day, step 2: clocks");
        TriggerConditions x = new TriggerConditions();
        x.condition(1, 0, 0, 1);
        x.condition(1, 0, 3, 2);
        x.condition(1, 1, 3, 1);
        x.pass(5);
        Check.due("its stage is not begun", x.conditionOf(0, 8), 0);
        x.begin(0);
        Check.due("not at once", x.which(3), 0);
        x.pass(1);
        Check.due("no days", x.which(3), 1);
        Check.due("clock", x.conditionOf(0, 8), 1);
        Check.due("age", x.conditionOf(0, 9), 0);
        x.apply(1, 1);
        x.pass(1);
        Check.due("the clock of a breach stands", x.conditionOf(0, 8), 1);
        Check.due("age", x.conditionOf(0, 9), 1);
        Check.due("stopped", x.conditionOf(1, 8), 1);
        x.set(0, 1);
        x.pass(1);
        Check.due("runs on the day of the approval", x.conditionOf(1, 8), 2);
        x.pass(1);
        Check.due("not more than its days", x.conditionOf(1, 4), 1);
        x.pass(1);
        Check.due("more than its days", x.conditionOf(1, 4), 3);
        Check.due("breaches", x.count(4), 2);
        Check.due("the other stage sleeps", x.conditionOf(2, 4), 0);
        x.apply(2, 1);
        x.decide(2, 1);
        Check.due("met ahead of its stage", x.conditionOf(2, 4), 2);
        x.begin(1);
        x.pass(9);
        Check.due("met: the clock stands", x.conditionOf(2, 8), 0);
        Check.due("met", x.conditionOf(2, 4), 2);
    }

    private static void clockOfAFinishedStage() {
        Check.part("a day, step 2: the clock goes on behind the end of the stage");
        TriggerConditions x = new TriggerConditions();
        x.condition(1, 0, 3, 1);
        x.begin(0);
        x.pass(2);
        x.finish(0);
        Check.due("running", x.conditionOf(0, 4), 1);
        x.pass(1);
        Check.due("clock", x.conditionOf(0, 8), 3);
        x.pass(1);
        Check.due("in breach", x.conditionOf(0, 4), 3);
    }

    private static void kept() {
        Check.part("a day, step 2: days kept");
        TriggerConditions x = new TriggerConditions();
        x.condition(2, 0, 3, 1);
        x.begin(0);
        x.pass(4);
        Check.due("not finished", x.conditionOf(0, 8), 0);
        x.finish(0);
        Check.due("from 0", x.conditionOf(0, 8), 0);
        x.pass(2);
        Check.due("running", x.conditionOf(0, 4), 1);
        x.pass(1);
        Check.due("met", x.conditionOf(0, 4), 2);
        x.pass(5);
        Check.due("no longer kept when met", x.conditionOf(0, 8), 3);
    }

    private static void breaches() {
        Check.part("a day, step 3: breaches");
        TriggerConditions x = new TriggerConditions();
        x.condition(0, 0, 0, 1);
        x.condition(1, 0, 2, 1);
        x.begin(0);
        x.pass(3);
        Check.due("age from the first day on", x.conditionOf(0, 9), 3);
        Check.due("age 0 on the day of the breach", x.conditionOf(1, 9), 0);
        x.serve(0, 2);
        x.apply(0, 1);
        x.pass(4);
        Check.due("an application stops no notice", x.conditionOf(0, 11), 2);
        Check.due("age", x.conditionOf(0, 9), 7);
        Check.due("age", x.conditionOf(1, 9), 4);
        Check.due("not overdue without a notice", x.conditionOf(1, 11), 0);
        x.set(0, 5);
        x.pass(1);
        Check.due("not overdue on the day it ends", x.conditionOf(0, 11), 2);
        Check.due("ended", x.conditionOf(0, 4), 2);
    }

    private static void immunity() {
        Check.part("a day, step 3: immunity");
        TriggerConditions x = new TriggerConditions();
        x.condition(0, 0, 0, 2);
        x.condition(0, 0, 0, 1);
        x.condition(1, 0, 0, 1);
        x.begin(0);
        x.set(1, 4);
        x.serve(1, 1);
        x.pass(3);
        Check.due("not yet", x.which(4), 0);
        x.pass(1);
        Check.due("at that age", x.which(4), 1);
        Check.due("its age is gone", x.conditionOf(0, 9), Check.MISSING);
        Check.due("a notice keeps it", x.which(3), 6);
        x.pass(1);
        Check.due("a day later", x.which(4), 5);
        x.pass(50);
        Check.due("a late notice keeps it", x.which(3), 2);
        Check.due("overdue", x.conditionOf(1, 11), 54);
        x.apply(0, 3);
        x.decide(0, 3);
        x.apply(2, 1);
        x.set(0, 0);
        x.pass(1);
        Check.due("for ever, when all is approved", x.which(4), 5);
        Check.due("no breach", x.count(4), 3);
        TriggerConditions y = new TriggerConditions();
        y.condition(0, 0, 0, 1);
        y.begin(0);
        y.pass(50);
        y.set(1, 10);
        Check.due("the setting alone does nothing", y.which(4), 0);
        y.pass(1);
        Check.due("an age beyond the setting", y.which(4), 1);
    }
}
