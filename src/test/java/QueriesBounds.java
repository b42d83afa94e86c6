import java.util.function.Supplier;

/** The boundary cases of the promises 13 to 15. */
final class QueriesBounds {
    private QueriesBounds() {
    }

    static void all() {
        conditionOfCondition();
        conditionOfWhat();
        conditionOfAnswer();
        conditionOfInvalid();
        nothingIsAppliedFor();
        notInBreach();
        noNotice();
        stageOfStage();
        stageOfWhat();
        stageOfAnswer();
        stageOfInvalid();
        stageOfMissing();
        whichState();
        whichAnswer();
        whichInvalid();
    }

    private static void conditionOfCondition() {
        Check.sentence("Promise 13", "Returns something of a condition.");
        TriggerConditions x = new TriggerConditions();
        for (int c = 0; c < 10; c++) {
            x.condition(c % 3, c % 5, 300 + c, 1 + c % 6);
        }
        for (int c = 0; c < 10; c++) {
            int[] due = {c % 3, c % 5, 300 + c, 1 + c % 6};
            for (int what = 0; what < 4; what++) {
                Check.due("what " + what + " of " + c, x.conditionOf(c, what), due[what]);
            }
        }
        Check.sentence("Promise 13", "condition: number of the condition");
        Check.due("the first one", x.conditionOf(0, 2), 300);
        Check.due("the last one", x.conditionOf(9, 2), 309);
        Check.due("below", x.conditionOf(-1, 2), Check.INVALID);
        Check.due("above", x.conditionOf(10, 2), Check.INVALID);
    }

    private static void all(String told, TriggerConditions x, int... due) {
        for (int what = 0; what < due.length; what++) {
            Check.due(told + ", conditionOf(0, " + what + ")", x.conditionOf(0, what), due[what]);
        }
    }

    private static void conditionOfWhat() {
        Check.sentence("Promise 13", "what: 0: its kind; 1: its stage; 2: its days; 3: its parts; 4: its state; "
            + "5: the parts that are approved, as a set; 6: the parts that are applied for, as a set; 7: for how many days "
            + "they are; 8: its clock, of the kind 2 for how many days it was kept; 9: the age of its breach; 10: the days "
            + "left of its notice; 11: for how many days it is overdue, in all");
        final int none = Check.MISSING;
        all("new", Make.one(0, 4, 365, 6), 0, 4, 365, 6, 1, 0, 0, none, 0, none, none, 0);
        TriggerConditions x = Make.withinRunning(5, 6);
        Make.approve(x, 0, 33);
        x.pass(4);
        x.apply(0, 18);
        x.pass(7);
        all("applied for", x, 1, 0, 5, 6, 1, 33, 18, 7, 4, none, none, 0);
        x.decide(0, 2);
        x.pass(2);
        all("in breach", x, 1, 0, 5, 6, 3, 35, 0, none, 6, 0, none, 0);
        x.serve(0, 3);
        x.apply(0, 28);
        x.pass(8);
        all("overdue", x, 1, 0, 5, 6, 3, 35, 28, 8, 6, 8, 0, 5);
        x.decide(0, 28);
        all("met", x, 1, 0, 5, 6, 2, 63, 0, none, 6, none, none, 5);
        TriggerConditions y = Make.keptInBreach(9, 2);
        y.serve(0, 99);
        y.pass(3);
        all("kind 2", y, 2, 0, 9, 1, 3, 0, 0, none, 2, 3, 96, 0);
        TriggerConditions z = Make.immune(Make.keptInBreach(9, 2));
        all("immune", z, 2, 0, 9, 1, 4, 0, 0, none, 2, none, none, 0);
    }

    private static void conditionOfAnswer() {
        Check.sentence("Promise 13", "Returns the number;");
        for (int what = 0; what < 12; what++) {
            int any = what;
            int[] due = {0, 0, 0, 2, 3, 0, 2, 6, 0, 6, 0, 5};
            Check.still("what " + what + " and no change", () -> {
                TriggerConditions x = Make.aheadInBreach();
                x.serve(0, 1);
                x.apply(0, 2);
                x.pass(6);
                return x;
            }, x -> x.conditionOf(0, any), due[what]);
        }
    }

    private static void conditionOfInvalid() {
        Check.sentence("Promise 13", "INVALID_ARGUMENT if an argument is out of range;");
        int[][] beside = {{0, -1}, {0, 12}, {-1, 0}, {1, 0}, {10, 0}, {1, 7}, {-1, 9}, {1, 10}, {1, 12}};
        for (int[] b : beside) {
            Check.still("conditionOf(" + b[0] + ", " + b[1] + ")", () -> Make.one(0, 0, 0, 1),
                x -> x.conditionOf(b[0], b[1]), Check.INVALID);
        }
        for (int what = 0; what < 12; what++) {
            Check.due("no condition at all", new TriggerConditions().conditionOf(0, what), Check.INVALID);
        }
        for (int far : Make.FAR) {
            Check.still("conditionOf(" + far + ", 0)", () -> Make.one(0, 0, 0, 1), x -> x.conditionOf(far, 0), Check.INVALID);
            Check.still("conditionOf(0, " + far + ")", () -> Make.one(0, 0, 0, 1), x -> x.conditionOf(0, far), Check.INVALID);
        }
    }

    private static void nothingIsAppliedFor() {
        Check.sentence("Promise 13", "NOT_FOUND for 7 if nothing is applied for,");
        TriggerConditions x = Make.one(0, 0, 0, 2);
        Check.due("not yet", x.conditionOf(0, 7), Check.MISSING);
        x.apply(0, 1);
        Check.due("on the day itself", x.conditionOf(0, 7), 0);
        x.pass(55);
        Check.due("for the most days", x.conditionOf(0, 7), 55);
        x.pass(1);
        Check.due("they count as approved", x.conditionOf(0, 7), Check.MISSING);
        x.apply(0, 2);
        x.decide(0, 0);
        Check.due("decided", x.conditionOf(0, 7), Check.MISSING);
        Check.due("kind 2", Make.keptRunning(9).conditionOf(0, 7), Check.MISSING);
        Check.still("and no change", () -> Make.one(0, 0, 0, 2), y -> y.conditionOf(0, 7), Check.MISSING);
    }

    private static void notInBreach() {
        Check.sentence("Promise 13", "for 9 if it is not in breach,");
        Check.due("asleep", Make.one(1, 0, 9, 1).conditionOf(0, 9), Check.MISSING);
        Check.due("running", Make.withinRunning(9, 1).conditionOf(0, 9), Check.MISSING);
        TriggerConditions x = Make.aheadInBreach();
        Check.due("in breach since today", x.conditionOf(0, 9), 0);
        Make.approve(x, 0, 3);
        Check.due("met", x.conditionOf(0, 9), Check.MISSING);
        Check.due("immune", Make.immune(Make.aheadInBreach()).conditionOf(0, 9), Check.MISSING);
        TriggerConditions y = Make.keptInBreach(9, 1);
        y.cure(0);
        Check.due("cured", y.conditionOf(0, 9), Check.MISSING);
    }

    private static void noNotice() {
        Check.sentence("Promise 13", "for 10 if there is no notice.");
        Check.due("not in breach", Make.withinRunning(9, 1).conditionOf(0, 10), Check.MISSING);
        Check.due("in breach", Make.aheadInBreach().conditionOf(0, 10), Check.MISSING);
        TriggerConditions x = Make.overdue(3);
        Check.due("a notice without days left", x.conditionOf(0, 10), 0);
        Make.approve(x, 0, 3);
        Check.due("met", x.conditionOf(0, 10), Check.MISSING);
    }

    private static void stageOfStage() {
        Check.sentence("Promise 14", "Returns something of a stage.");
        for (int stage = 0; stage <= 4; stage++) {
            int any = stage;
            Supplier<TriggerConditions> made = () -> {
                TriggerConditions x = Make.one(0, any, 0, 1);
                x.pass(3);
                Make.beginTo(x, any);
                x.pass(4);
                x.finish(any);
                return x;
            };
            int[] due = {2, 3, 7, 1};
            for (int what = 0; what < 4; what++) {
                int asked = what;
                Check.still("what " + what + " of " + stage, made, x -> x.stageOf(any, asked), due[what]);
            }
        }
        Check.sentence("Promise 14", "stage: 0 to 4");
        for (int stage = 0; stage <= 4; stage++) {
            Check.due("stageOf(" + stage + ", 0)", new TriggerConditions().stageOf(stage, 0), 0);
        }
        Check.due("below", new TriggerConditions().stageOf(-1, 0), Check.INVALID);
        Check.due("above", new TriggerConditions().stageOf(5, 0), Check.INVALID);
    }

    private static void stageOfWhat() {
        Check.sentence("Promise 14", "what: 0: 0 if it is not begun, 1 if it is begun, 2 if it is finished; 1: the day on which "
            + "it was begun; 2: the day on which it was finished; 3: the conditions of the kind 0 of this stage whose parts "
            + "are not all approved (immune ones, too), as a set");
        TriggerConditions x = new TriggerConditions();
        for (int i = 0; i < 10; i++) {
            x.condition(i % 3, i / 5, 9, 2);
        }
        Check.due("kind 0 of the stage 0", x.stageOf(0, 3), 1 + 8);
        Check.due("kind 0 of the stage 1", x.stageOf(1, 3), 64 + 512);
        Check.due("of the stage 2", x.stageOf(2, 3), 0);
        Make.approve(x, 0, 1);
        x.apply(3, 3);
        Check.due("one part, and applied for", x.stageOf(0, 3), 1 + 8);
        x.decide(3, 3);
        Check.due("all parts", x.stageOf(0, 3), 1);
        x.pass(9999 - 9599);
        x.begin(0);
        Check.due("in breach", x.stageOf(0, 3), 1);
        Check.due("begun", x.stageOf(0, 0), 1);
        Check.due("on", x.stageOf(0, 1), 400);
        x.set(1, 1);
        x.pass(1);
        Check.due("immune", x.which(4), 1);
        Check.due("immune ones, too", x.stageOf(0, 3), 1);
        x.finish(0);
        Check.due("finished", x.stageOf(0, 0), 2);
        Check.due("on", x.stageOf(0, 2), 401);
        Make.approve(x, 0, 2);
        Check.due("immune, all parts", x.stageOf(0, 3), 0);
    }

    private static void stageOfAnswer() {
        Check.sentence("Promise 14", "Returns the number;");
        TriggerConditions x = Make.onDay(9999);
        x.begin(0);
        x.finish(0);
        Check.due("begun on the last day", x.stageOf(0, 1), 9999);
        Check.due("finished on the last day", x.stageOf(0, 2), 9999);
        TriggerConditions y = Make.ten(0, 4, 0, 1);
        Check.due("all ten", y.stageOf(4, 3), 1023);
        Check.due("none", y.stageOf(3, 3), 0);
    }

    private static void stageOfInvalid() {
        Check.sentence("Promise 14", "INVALID_ARGUMENT if an argument is out of range;");
        int[][] beside = {{-1, 0}, {5, 0}, {0, -1}, {0, 4}, {5, 1}, {-1, 2}, {5, 4}};
        for (int[] b : beside) {
            Check.still("stageOf(" + b[0] + ", " + b[1] + ")", Make::fresh, x -> x.stageOf(b[0], b[1]), Check.INVALID);
        }
        for (int far : Make.FAR) {
            Check.still("stageOf(" + far + ", 0)", Make::fresh, x -> x.stageOf(far, 0), Check.INVALID);
            Check.still("stageOf(0, " + far + ")", Make::fresh, x -> x.stageOf(0, far), Check.INVALID);
        }
    }

    private static void stageOfMissing() {
        Check.sentence("Promise 14", "NOT_FOUND for 1 and 2 if it was not so far.");
        for (int stage = 0; stage <= 4; stage++) {
            TriggerConditions x = new TriggerConditions();
            Make.beginTo(x, stage - 1);
            Check.due("not begun, 1", x.stageOf(stage, 1), Check.MISSING);
            Check.due("not begun, 2", x.stageOf(stage, 2), Check.MISSING);
            x.begin(stage);
            Check.due("begun, 1", x.stageOf(stage, 1), 0);
            Check.due("begun, 2", x.stageOf(stage, 2), Check.MISSING);
            x.finish(stage);
            Check.due("finished, 2", x.stageOf(stage, 2), 0);
            x.undo();
            Check.due("undone, 2", x.stageOf(stage, 2), Check.MISSING);
            x.undo();
            Check.due("undone, 1", x.stageOf(stage, 1), Check.MISSING);
        }
    }

    private static void whichState() {
        Check.sentence("Promise 15", "Returns the conditions with a state.");
        TriggerConditions[] have = {Make.one(1, 0, 0, 1), Make.one(0, 0, 0, 1), Make.keptRunning(1), Make.aheadInBreach(),
            Make.immune(Make.aheadInBreach())};
        have[2].pass(1);
        for (int state = 0; state < 5; state++) {
            for (int asked = 0; asked < 5; asked++) {
                Check.due("which(" + asked + ") with the state " + state, have[state].which(asked), asked == state ? 1 : 0);
            }
        }
        Check.sentence("Promise 15", "state: 0 to 4");
        for (int state = 0; state < 5; state++) {
            Check.due("which(" + state + ")", new TriggerConditions().which(state), 0);
        }
        Check.due("below", new TriggerConditions().which(-1), Check.INVALID);
        Check.due("above", new TriggerConditions().which(5), Check.INVALID);
    }

    private static void whichAnswer() {
        Check.sentence("Promise 15", "Returns the set;");
        Check.due("none", new TriggerConditions().which(1), 0);
        Check.due("all ten", Make.ten(0, 0, 0, 1).which(1), 1023);
        Supplier<TriggerConditions> made = () -> {
            TriggerConditions x = new TriggerConditions();
            for (int i = 0; i < 10; i++) {
                x.condition(i % 3, 0, 9, 1);
            }
            Make.approve(x, 9, 1);
            Make.approve(x, 1, 1);
            return x;
        };
        int[] due = {0b0110110100, 0b0001001001, 0b1000000010, 0, 0};
        for (int state = 0; state < 5; state++) {
            int any = state;
            Check.still("which(" + state + ")", made, x -> x.which(any), due[state]);
        }
    }

    private static void whichInvalid() {
        Check.sentence("Promise 15", "INVALID_ARGUMENT if state is out of range.");
        Check.still("which(-1)", () -> Make.ten(0, 0, 0, 1), x -> x.which(-1), Check.INVALID);
        Check.still("which(5)", () -> Make.ten(0, 0, 0, 1), x -> x.which(5), Check.INVALID);
        for (int far : Make.FAR) {
            Check.still("which(" + far + ")", Make::fresh, x -> x.which(far), Check.INVALID);
        }
    }
}
