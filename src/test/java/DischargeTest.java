/** Promises 5 to 10. */
public final class DischargeTest {
    private static final int[] NO_CONDITIONS = {-1, 10, Integer.MIN_VALUE, Integer.MAX_VALUE};

    public static void main(String[] args) {
        apply();
        applyErrors();
        decide();
        decideErrors();
        lapse();
        cure();
        serve();
        varyDays();
        varyParts();
        varyStage();
        varyErrors();
        Check.end();
    }

    private static void apply() {
        Check.part("promise 5: apply");
        TriggerConditions x = new TriggerConditions();
        x.condition(0, 0, 0, 3);
        x.condition(1, 0, 9, 6);
        Check.due("some", x.apply(0, 5), 56);
        Check.due("applied for", x.conditionOf(0, 6), 5);
        Check.due("for days", x.conditionOf(0, 7), 0);
        Check.due("not approved", x.conditionOf(0, 5), 0);
        x.set(0, 7);
        Check.due("all, another setting", x.apply(1, 63), 7);
        x.pass(2);
        Check.due("for days", x.conditionOf(0, 7), 2);
        x.set(0, 0);
        Check.due("not until the next day", x.conditionOf(0, 5), 0);
        x.pass(1);
        Check.due("counts as approved", x.conditionOf(0, 5), 5);
        Check.due("those not applied for are open", x.apply(0, 2), 0);
        Check.due("with 0 not at once", x.conditionOf(0, 4), 1);
        Check.due("approved without a decision", x.count(5), 8);
        x.pass(1);
        Check.due("with 0 on the next day", x.conditionOf(0, 4), 2);
        Check.due("approved without a decision", x.count(5), 9);
    }

    private static void applyErrors() {
        Check.part("promise 5: its errors and their order");
        TriggerConditions x = new TriggerConditions();
        x.condition(0, 0, 0, 3);
        x.condition(2, 0, 1, 2);
        for (int c : NO_CONDITIONS) {
            Check.due("no such condition", x.apply(c, 1), Check.INVALID);
        }
        Check.due("no such condition", x.apply(2, 1), Check.INVALID);
        Check.due("empty", x.apply(0, 0), Check.INVALID);
        Check.due("other parts", x.apply(0, 8), Check.INVALID);
        Check.due("other parts too", x.apply(0, 9), Check.INVALID);
        Check.due("negative", x.apply(0, -1), Check.INVALID);
        Check.due("negative", x.apply(0, Integer.MIN_VALUE), Check.INVALID);
        Check.due("kind 2", x.apply(1, 1), Check.IMPOSSIBLE);
        Check.due("kind 2, other parts", x.apply(1, 4), Check.INVALID);
        Check.due("kind 2, empty", x.apply(1, 0), Check.INVALID);
        x.apply(0, 1);
        Check.due("something is applied for", x.apply(0, 2), Check.IMPOSSIBLE);
        Check.due("something is applied for, other parts", x.apply(0, 8), Check.INVALID);
        x.decide(0, 1);
        Check.due("one is approved", x.apply(0, 3), Check.IMPOSSIBLE);
        Check.due("the others", x.apply(0, 6), 56);
        x.decide(0, 6);
        Check.due("all are approved", x.apply(0, 1), Check.IMPOSSIBLE);
    }

    private static void decide() {
        Check.part("promise 6: decide");
        TriggerConditions x = new TriggerConditions();
        x.condition(0, 0, 0, 4);
        x.condition(1, 0, 0, 2);
        x.apply(0, 7);
        Check.due("some", x.decide(0, 2), 3);
        Check.due("approved", x.conditionOf(0, 5), 2);
        Check.due("the others are open", x.conditionOf(0, 6), 0);
        Check.due("not applied for", x.conditionOf(0, 7), Check.MISSING);
        x.apply(0, 13);
        x.pass(3);
        Check.due("none", x.decide(0, 0), 3);
        x.begin(0);
        Check.due("in breach", x.which(3), 1);
        x.serve(0, 1);
        x.pass(2);
        Check.due("in breach both", x.which(3), 3);
        Check.due("overdue", x.conditionOf(0, 11), 1);
        x.apply(0, 13);
        Check.due("for days from the start", x.conditionOf(0, 7), 0);
        Check.due("all but one", x.decide(0, 5), 1);
        Check.due("still in breach", x.conditionOf(0, 9), 2);
        x.apply(0, 8);
        Check.due("the last", x.decide(0, 8), 0);
        Check.due("its breach ends", x.conditionOf(0, 4), 2);
        Check.due("the age is gone", x.conditionOf(0, 9), Check.MISSING);
        Check.due("the notice is gone", x.conditionOf(0, 10), Check.MISSING);
        Check.due("the days overdue stay", x.conditionOf(0, 11), 1);
        Check.due("the other one stays", x.which(3), 2);
        Check.due("no decision was missing", x.count(5), 0);
        Check.due("breaches so far", x.count(4), 2);
    }

    private static void decideErrors() {
        Check.part("promise 6: its errors and their order");
        TriggerConditions x = new TriggerConditions();
        x.condition(0, 0, 0, 3);
        x.condition(2, 0, 1, 2);
        for (int c : NO_CONDITIONS) {
            Check.due("no such condition", x.decide(c, 0), Check.INVALID);
        }
        Check.due("no such condition", x.decide(2, 0), Check.INVALID);
        Check.due("none applied for", x.decide(0, 0), Check.IMPOSSIBLE);
        Check.due("none applied for, other parts", x.decide(0, 8), Check.INVALID);
        Check.due("kind 2", x.decide(1, 0), Check.IMPOSSIBLE);
        Check.due("kind 2, other parts", x.decide(1, 4), Check.INVALID);
        x.apply(0, 3);
        Check.due("other parts", x.decide(0, 8), Check.INVALID);
        Check.due("negative", x.decide(0, -1), Check.INVALID);
        Check.due("negative", x.decide(0, Integer.MIN_VALUE), Check.INVALID);
        Check.due("not applied for", x.decide(0, 4), Check.IMPOSSIBLE);
        Check.due("one not applied for", x.decide(0, 5), Check.IMPOSSIBLE);
        Check.due("nothing changed", x.conditionOf(0, 6), 3);
        Check.due("nothing recorded", x.count(6), 3);
    }

    private static void lapse() {
        Check.part("promise 7: lapse");
        TriggerConditions x = new TriggerConditions();
        x.condition(2, 0, 5, 1);
        x.condition(0, 0, 0, 1);
        x.condition(1, 0, 5, 1);
        x.condition(2, 0, 3, 1);
        for (int c : NO_CONDITIONS) {
            Check.due("no such condition", x.lapse(c), Check.INVALID);
        }
        Check.due("no such condition", x.lapse(4), Check.INVALID);
        Check.due("not begun", x.lapse(0), Check.IMPOSSIBLE);
        Check.due("kind 0, running", x.lapse(1), Check.IMPOSSIBLE);
        x.begin(0);
        Check.due("not finished", x.lapse(0), Check.IMPOSSIBLE);
        Check.due("kind 1, running", x.lapse(2), Check.IMPOSSIBLE);
        x.finish(0);
        x.pass(3);
        Check.due("met", x.lapse(3), Check.IMPOSSIBLE);
        Check.due("kept so far", x.lapse(0), 3);
        Check.due("in breach", x.conditionOf(0, 4), 3);
        Check.due("age", x.conditionOf(0, 9), 0);
        Check.due("no notice", x.conditionOf(0, 10), Check.MISSING);
        Check.due("again", x.lapse(0), Check.IMPOSSIBLE);
        Check.due("breaches so far", x.count(4), 2);
        x.pass(4);
        Check.due("not kept in breach", x.conditionOf(0, 8), 3);
        Check.due("age", x.conditionOf(0, 9), 4);
        x.set(1, 1);
        x.pass(1);
        Check.due("immune", x.conditionOf(0, 4), 4);
        Check.due("immune", x.lapse(0), Check.IMPOSSIBLE);
        x.pass(9);
        Check.due("an immune one is not kept", x.conditionOf(0, 8), 3);
        TriggerConditions y = new TriggerConditions();
        y.condition(2, 0, 5, 1);
        y.begin(0);
        y.finish(0);
        Check.due("on the day itself", y.lapse(0), 0);
    }

    private static void cure() {
        Check.part("promise 8: cure");
        TriggerConditions x = new TriggerConditions();
        x.condition(2, 0, 5, 1);
        x.condition(0, 0, 0, 1);
        for (int c : NO_CONDITIONS) {
            Check.due("no such condition", x.cure(c), Check.INVALID);
        }
        Check.due("asleep", x.cure(0), Check.IMPOSSIBLE);
        x.begin(0);
        x.finish(0);
        Check.due("running", x.cure(0), Check.IMPOSSIBLE);
        Check.due("kind 0, in breach", x.cure(1), Check.IMPOSSIBLE);
        x.pass(2);
        x.lapse(0);
        x.serve(0, 1);
        x.pass(3);
        Check.due("the age", x.cure(0), 3);
        Check.due("again", x.cure(0), Check.IMPOSSIBLE);
        Check.due("running", x.conditionOf(0, 4), 1);
        Check.due("the age is gone", x.conditionOf(0, 9), Check.MISSING);
        Check.due("the notice is gone", x.conditionOf(0, 10), Check.MISSING);
        Check.due("the days overdue stay", x.conditionOf(0, 11), 2);
        Check.due("kept so far", x.conditionOf(0, 8), 2);
        x.pass(1);
        Check.due("they go on", x.conditionOf(0, 8), 3);
        Check.due("once more", x.lapse(0), 3);
        Check.due("a new breach has age 0", x.conditionOf(0, 9), 0);
        Check.due("a new breach has no notice", x.conditionOf(0, 10), Check.MISSING);
        Check.due("breaches so far", x.count(4), 3);
        Check.due("on the same day", x.cure(0), 0);
        x.pass(2);
        Check.due("met", x.conditionOf(0, 4), 2);
        Check.due("met", x.cure(0), Check.IMPOSSIBLE);
    }

    private static void serve() {
        Check.part("promise 9: serve");
        TriggerConditions x = new TriggerConditions();
        x.condition(0, 0, 0, 1);
        x.condition(1, 0, 1, 1);
        x.condition(0, 0, 0, 1);
        for (int c : NO_CONDITIONS) {
            Check.due("no such condition", x.serve(c, 1), Check.INVALID);
        }
        int[] bad = {0, 100, -1, Integer.MIN_VALUE, Integer.MAX_VALUE};
        for (int b : bad) {
            Check.due("bad days, not in breach", x.serve(0, b), Check.INVALID);
        }
        Check.due("running", x.serve(0, 1), Check.IMPOSSIBLE);
        Check.due("asleep", x.serve(1, 1), Check.IMPOSSIBLE);
        x.begin(0);
        Check.due("on the day itself", x.serve(0, 99), 0);
        Check.due("days left", x.conditionOf(0, 10), 99);
        x.pass(2);
        Check.due("days left", x.conditionOf(0, 10), 97);
        Check.due("in place of one", x.serve(0, 2), 2);
        Check.due("days left", x.conditionOf(0, 10), 2);
        x.pass(2);
        Check.due("none left", x.conditionOf(0, 10), 0);
        Check.due("not overdue yet", x.conditionOf(0, 11), 0);
        x.pass(3);
        Check.due("overdue", x.conditionOf(0, 11), 3);
        Check.due("none left", x.conditionOf(0, 10), 0);
        Check.due("in place of a late one", x.serve(0, 1), 7);
        x.pass(2);
        Check.due("overdue in all", x.conditionOf(0, 11), 4);
        Check.due("kind 1", x.serve(1, 1), 7);
        Check.due("the third has no notice", x.conditionOf(2, 10), Check.MISSING);
        x.pass(91);
        Check.due("the one without a notice is immune", x.which(4), 4);
        Check.due("those with one are not", x.which(3), 3);
        Check.due("immune", x.serve(2, 1), Check.IMPOSSIBLE);
        Check.due("immune, bad days", x.serve(2, 0), Check.INVALID);
        x.apply(1, 1);
        x.decide(1, 1);
        Check.due("met", x.serve(1, 1), Check.IMPOSSIBLE);
    }

    private static void varyDays() {
        Check.part("promise 10: vary the days");
        TriggerConditions x = new TriggerConditions();
        x.condition(1, 0, 10, 1);
        x.condition(2, 0, 10, 1);
        x.condition(0, 1, 10, 1);
        Check.due("kind 0", x.vary(2, 0, 0), 10);
        Check.due("kind 0", x.conditionOf(2, 2), 0);
        Check.due("kind 2, asleep", x.vary(1, 0, 1), 10);
        Check.due("kind 2, most", x.vary(1, 0, 365), 1);
        x.begin(0);
        x.finish(0);
        x.pass(4);
        Check.due("less than the clock", x.vary(0, 0, 3), Check.IMPOSSIBLE);
        Check.due("as much as the clock", x.vary(0, 0, 4), 10);
        Check.due("not in breach by that", x.conditionOf(0, 4), 1);
        Check.due("kept for so many", x.vary(1, 0, 4), Check.IMPOSSIBLE);
        Check.due("kept for more", x.vary(1, 0, 3), Check.IMPOSSIBLE);
        Check.due("one more", x.vary(1, 0, 5), 365);
        x.pass(1);
        Check.due("in breach", x.conditionOf(0, 4), 3);
        Check.due("in breach", x.vary(0, 0, 9), Check.IMPOSSIBLE);
        Check.due("met", x.conditionOf(1, 4), 2);
        Check.due("met", x.vary(1, 0, 9), Check.IMPOSSIBLE);
        Check.due("the clock stays", x.conditionOf(0, 8), 5);
    }

    private static void varyParts() {
        Check.part("promise 10: vary the parts");
        TriggerConditions x = new TriggerConditions();
        x.condition(0, 0, 0, 2);
        x.condition(2, 0, 3, 1);
        x.apply(0, 1);
        x.decide(0, 1);
        Check.due("not more", x.vary(0, 1, 2), Check.IMPOSSIBLE);
        Check.due("less", x.vary(0, 1, 1), Check.IMPOSSIBLE);
        Check.due("more", x.vary(0, 1, 6), 2);
        Check.due("more", x.conditionOf(0, 3), 6);
        Check.due("the approved ones stay", x.conditionOf(0, 5), 1);
        Check.due("the new ones can be applied for", x.apply(0, 62), 56);
        Check.due("applied for", x.vary(0, 1, 6), Check.IMPOSSIBLE);
        Check.due("kind 2", x.vary(1, 1, 3), 1);
        x.decide(0, 62);
        Check.due("met", x.vary(0, 1, 6), Check.IMPOSSIBLE);
    }

    private static void varyStage() {
        Check.part("promise 10: vary the stage");
        TriggerConditions x = new TriggerConditions();
        x.condition(1, 0, 10, 1);
        x.condition(2, 0, 10, 1);
        x.condition(0, 1, 0, 1);
        Check.due("the same", x.vary(0, 2, 0), 0);
        x.begin(0);
        x.finish(0);
        x.pass(3);
        Check.due("begun", x.vary(2, 2, 0), Check.IMPOSSIBLE);
        Check.due("its own, begun", x.vary(0, 2, 0), Check.IMPOSSIBLE);
        Check.due("running", x.vary(0, 2, 4), 0);
        Check.due("the clock is 0", x.conditionOf(0, 8), 0);
        Check.due("asleep again", x.conditionOf(0, 4), 0);
        Check.due("kept so far", x.conditionOf(1, 8), 3);
        Check.due("kind 2", x.vary(1, 2, 1), 0);
        Check.due("not kept any more", x.conditionOf(1, 8), 0);
        Check.due("asleep", x.conditionOf(1, 4), 0);
        Check.due("kind 0", x.vary(2, 2, 3), 1);
        Check.due("in breach of the new stage alone", x.begin(1), 0);
        x.begin(2);
        Check.due("in breach of the new stage", x.begin(3), 4);
        Check.due("in breach", x.vary(2, 2, 4), Check.IMPOSSIBLE);
    }

    private static void varyErrors() {
        Check.part("promise 10: its errors and their order");
        TriggerConditions x = new TriggerConditions();
        x.condition(1, 0, 10, 2);
        x.condition(2, 0, 10, 2);
        for (int c : NO_CONDITIONS) {
            Check.due("no such condition", x.vary(c, 0, 1), Check.INVALID);
        }
        Check.due("no such condition", x.vary(2, 0, 1), Check.INVALID);
        int[][] bad = {{-1, 1}, {3, 1}, {0, -1}, {0, 366}, {1, 0}, {1, 7}, {2, -1}, {2, 5},
            {Integer.MIN_VALUE, 1}, {Integer.MAX_VALUE, 1}, {0, Integer.MIN_VALUE}, {1, Integer.MAX_VALUE}};
        for (int round = 0; round < 2; round++) {
            for (int[] b : bad) {
                Check.due("vary(0, " + b[0] + ", " + b[1] + ")", x.vary(0, b[0], b[1]), Check.INVALID);
            }
            Check.due("kind 2, no days", x.vary(1, 0, 0), Check.INVALID);
            // with something applied for, what is out of range is still told first
            x.apply(0, 1);
        }
        Check.due("applied for, days", x.vary(0, 0, 9), Check.IMPOSSIBLE);
        Check.due("applied for, parts", x.vary(0, 1, 3), Check.IMPOSSIBLE);
        Check.due("applied for, stage", x.vary(0, 2, 1), Check.IMPOSSIBLE);
        x.decide(0, 0);
        Check.due("kind 1, no days", x.vary(0, 0, 0), 10);
        x.begin(0);
        x.set(1, 1);
        x.pass(2);
        Check.due("immune", x.conditionOf(0, 4), 4);
        Check.due("immune, days", x.vary(0, 0, 9), Check.IMPOSSIBLE);
        Check.due("immune, parts", x.vary(0, 1, 3), Check.IMPOSSIBLE);
        Check.due("immune, stage", x.vary(0, 2, 1), Check.IMPOSSIBLE);
    }
}
