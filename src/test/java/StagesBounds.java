/** The boundary cases of the promises 1 to 4. */
final class StagesBounds {
    private StagesBounds() {
    }

    static void all() {
        newObject();
        conditionAdds();
        conditionKind();
        conditionStage();
        conditionDays();
        conditionParts();
        conditionNumber();
        conditionInvalid();
        conditionImpossible();
        conditionLimit();
        beginBegins();
        beginStage();
        beginAnswer();
        beginInvalid();
        beginImpossible();
        finishFinishes();
        finishStage();
        finishAnswer();
        finishInvalid();
        finishImpossible();
    }

    private static void newObject() {
        Check.sentence("Promise 1", "Creates a permission without conditions.");
        TriggerConditions x = new TriggerConditions();
        Check.due("none", x.count(0), 0);
        Check.due("no number 0", x.conditionOf(0, 0), Check.INVALID);
        Check.due("no parts", x.count(2), 0);
        Check.due("no share", x.share(), Check.MISSING);
        for (int state = 0; state < 5; state++) {
            Check.due("none has the state " + state, x.which(state), 0);
        }
        Check.due("the first one", x.condition(0, 0, 0, 1), 0);
        Check.due("of this object alone", new TriggerConditions().count(0), 0);
    }

    private static void conditionAdds() {
        Check.sentence("Promise 2", "Adds a condition.");
        int[][] given = {{0, 0, 0, 1}, {1, 4, 365, 6}, {2, 2, 1, 3}};
        TriggerConditions x = new TriggerConditions();
        for (int i = 0; i < given.length; i++) {
            x.condition(given[i][0], given[i][1], given[i][2], given[i][3]);
            Check.due("how many", x.count(0), i + 1);
        }
        for (int i = 0; i < given.length; i++) {
            for (int what = 0; what < 4; what++) {
                Check.due("what " + what + " of " + i, x.conditionOf(i, what), given[i][what]);
            }
        }
    }

    private static void conditionKind() {
        Check.sentence("Promise 2", "kind: 0 to 2");
        for (int kind = 0; kind <= 2; kind++) {
            Check.due("kind " + kind, new TriggerConditions().condition(kind, 0, 1, 1), 0);
        }
        Check.due("below", new TriggerConditions().condition(-1, 0, 1, 1), Check.INVALID);
        Check.due("above", new TriggerConditions().condition(3, 0, 1, 1), Check.INVALID);
    }

    private static void conditionStage() {
        Check.sentence("Promise 2", "stage: 0 to 4");
        for (int stage = 0; stage <= 4; stage++) {
            Check.due("stage " + stage, new TriggerConditions().condition(0, stage, 1, 1), 0);
        }
        Check.due("below", new TriggerConditions().condition(0, -1, 1, 1), Check.INVALID);
        Check.due("above", new TriggerConditions().condition(0, 5, 1, 1), Check.INVALID);
    }

    private static void conditionDays() {
        Check.sentence("Promise 2", "days: 0 to 365 (of the kind 2 at least 1)");
        for (int kind = 0; kind <= 2; kind++) {
            Check.due("below, kind " + kind, new TriggerConditions().condition(kind, 0, -1, 1), Check.INVALID);
            Check.due("0, kind " + kind, new TriggerConditions().condition(kind, 0, 0, 1), kind == 2 ? Check.INVALID : 0);
            Check.due("1, kind " + kind, new TriggerConditions().condition(kind, 0, 1, 1), 0);
            Check.due("365, kind " + kind, new TriggerConditions().condition(kind, 0, 365, 1), 0);
            Check.due("above, kind " + kind, new TriggerConditions().condition(kind, 0, 366, 1), Check.INVALID);
        }
    }

    private static void conditionParts() {
        Check.sentence("Promise 2", "parts: 1 to 6");
        for (int kind = 0; kind <= 2; kind++) {
            for (int parts = 1; parts <= 6; parts++) {
                Check.due("parts " + parts, new TriggerConditions().condition(kind, 0, 1, parts), 0);
            }
            Check.due("below, kind " + kind, new TriggerConditions().condition(kind, 0, 1, 0), Check.INVALID);
            Check.due("above, kind " + kind, new TriggerConditions().condition(kind, 0, 1, 7), Check.INVALID);
        }
    }

    private static void conditionNumber() {
        Check.sentence("Promise 2", "Returns its number;");
        TriggerConditions x = new TriggerConditions();
        for (int i = 0; i < 10; i++) {
            Check.due("the number", x.condition(0, 4 - i % 5, i, 1), i);
            Check.due("its days", x.conditionOf(i, 2), i);
        }
        x.undo();
        x.undo();
        Check.due("a number that is free again", x.condition(1, 0, 99, 1), 8);
        Check.due("its days", x.conditionOf(8, 2), 99);
    }

    private static void conditionInvalid() {
        Check.sentence("Promise 2", "INVALID_ARGUMENT if an argument is out of range;");
        int[] fits = {0, 0, 1, 1};
        for (int place = 0; place < 4; place++) {
            for (int far : Make.FAR) {
                int[] a = fits.clone();
                a[place] = far;
                Check.still("condition with " + far + " at " + place, Make::fresh,
                    x -> x.condition(a[0], a[1], a[2], a[3]), Check.INVALID);
            }
        }
        Check.still("kind 2, no days", Make::fresh, x -> x.condition(2, 0, 0, 1), Check.INVALID);
        Check.still("begun, no parts", () -> begun(0), x -> x.condition(0, 0, 0, 0), Check.INVALID);
        Check.still("ten, no parts", () -> Make.ten(0, 0, 0, 1), x -> x.condition(0, 0, 0, 0), Check.INVALID);
    }

    private static TriggerConditions begun(int stage) {
        TriggerConditions x = new TriggerConditions();
        Make.beginTo(x, stage);
        return x;
    }

    private static TriggerConditions finished(int stage) {
        TriggerConditions x = begun(stage);
        x.finish(stage);
        return x;
    }

    private static void conditionImpossible() {
        Check.sentence("Promise 2", "NOT_POSSIBLE if its stage has begun;");
        for (int stage = 0; stage < 5; stage++) {
            int number = stage;
            for (int kind = 0; kind <= 2; kind++) {
                int anyKind = kind;
                Check.still("begun is " + stage, () -> begun(number), x -> x.condition(anyKind, number, 1, 1), Check.IMPOSSIBLE);
                Check.still("finished is " + stage, () -> finished(number),
                    x -> x.condition(anyKind, number, 1, 1), Check.IMPOSSIBLE);
            }
            Check.due("the next one", begun(stage).condition(0, stage + 1, 0, 1), stage < 4 ? 0 : Check.INVALID);
        }
        TriggerConditions ten = Make.ten(0, 0, 0, 1);
        ten.begin(0);
        Check.due("begun, and ten of them", ten.condition(0, 0, 0, 1), Check.IMPOSSIBLE);
    }

    private static void conditionLimit() {
        Check.sentence("Promise 2", "LIMIT_REACHED if there are 10.");
        TriggerConditions x = Make.ten(0, 0, 0, 1);
        x.undo();
        Check.due("nine", x.count(0), 9);
        Check.due("the tenth", x.condition(2, 1, 1, 1), 9);
        for (int kind = 0; kind <= 2; kind++) {
            int anyKind = kind;
            Check.still("the eleventh", () -> Make.ten(1, 0, 5, 1), y -> y.condition(anyKind, 4, 1, 1), Check.LIMIT);
        }
    }

    private static void beginBegins() {
        Check.sentence("Promise 3", "Begins a stage, whether its conditions are met or not.");
        TriggerConditions x = Make.ten(0, 0, 0, 2);
        x.pass(7);
        Check.due("none is met", x.begin(0), 1023);
        Check.due("begun", x.stageOf(0, 0), 1);
        Check.due("on", x.stageOf(0, 1), 7);
        Check.due("the next one is not", x.stageOf(1, 0), 0);
        TriggerConditions y = Make.one(0, 0, 0, 1);
        Make.approve(y, 0, 1);
        Check.due("met", y.begin(0), 0);
        Check.due("begun", y.stageOf(0, 0), 1);
        Check.due("without conditions", y.begin(1), 0);
        Check.due("begun", y.stageOf(1, 0), 1);
    }

    private static void beginStage() {
        Check.sentence("Promise 3", "stage: 0 to 4");
        TriggerConditions x = new TriggerConditions();
        for (int stage = 0; stage <= 4; stage++) {
            Check.due("stage " + stage, x.begin(stage), 0);
        }
        Check.due("below", x.begin(-1), Check.INVALID);
        Check.due("above", x.begin(5), Check.INVALID);
    }

    private static void beginAnswer() {
        Check.sentence("Promise 3", "Returns the conditions that are in breach by that, as a set;");
        TriggerConditions x = new TriggerConditions();
        for (int i = 0; i < 10; i++) {
            x.condition(i % 3, i / 5, 0 + 1, 1);
        }
        // 0, 3 are of the kind 0 and the stage 0; 6, 9 of the kind 0 and the stage 1
        Check.due("not those of other kinds or stages", x.begin(0), 1 + 8);
        Check.due("in breach", x.which(3), 1 + 8);
        Make.approve(x, 6, 1);
        Check.due("not those that are met or in breach already", x.begin(1), 512);
        Check.due("in breach", x.which(3), 1 + 8 + 512);
        Check.due("none", x.begin(2), 0);
        Check.due("breaches so far", x.count(4), 3);
        Check.due("all ten", Make.ten(0, 0, 0, 1).begin(0), 1023);
        Check.due("no one of the kind 1, no days", Make.ten(1, 0, 0, 1).begin(0), 0);
        Check.due("no one of the kind 2", Make.ten(2, 0, 1, 1).begin(0), 0);
    }

    private static void beginInvalid() {
        Check.sentence("Promise 3", "INVALID_ARGUMENT if stage is out of range;");
        for (int far : Make.FAR) {
            Check.still("begin(" + far + ")", Make::fresh, x -> x.begin(far), Check.INVALID);
        }
        Check.still("begin(-1)", () -> begun(4), x -> x.begin(-1), Check.INVALID);
        Check.still("begin(5)", () -> begun(4), x -> x.begin(5), Check.INVALID);
    }

    private static void beginImpossible() {
        Check.sentence("Promise 3", "NOT_POSSIBLE if it has begun, or the one ahead of it has not.");
        for (int stage = 0; stage < 5; stage++) {
            int number = stage;
            Check.still("it is begun, " + stage, () -> begun(number), x -> x.begin(number), Check.IMPOSSIBLE);
            Check.still("it is finished, " + stage, () -> finished(number), x -> x.begin(number), Check.IMPOSSIBLE);
            if (stage > 0) {
                Check.still("none is begun, " + stage, Make::fresh, x -> x.begin(number), Check.IMPOSSIBLE);
            }
            if (stage > 1) {
                Check.still("the second one ahead is begun, " + stage, () -> begun(number - 2),
                    x -> x.begin(number), Check.IMPOSSIBLE);
            }
        }
    }

    private static void finishFinishes() {
        Check.sentence("Promise 4", "Finishes a stage.");
        TriggerConditions x = Make.one(0, 0, 0, 1);
        Make.beginTo(x, 2);
        x.pass(3);
        Check.due("the one in the middle", x.finish(1), 3);
        Check.due("finished", x.stageOf(1, 0), 2);
        Check.due("on", x.stageOf(1, 2), 3);
        Check.due("the one ahead is not", x.stageOf(0, 0), 1);
        Check.due("the one behind is not", x.stageOf(2, 0), 1);
        Check.due("with a condition in breach", x.finish(0), 3);
    }

    private static void finishStage() {
        Check.sentence("Promise 4", "stage: 0 to 4");
        TriggerConditions x = begun(4);
        for (int stage = 4; stage >= 0; stage--) {
            Check.due("stage " + stage, x.finish(stage), 0);
        }
        Check.due("below", x.finish(-1), Check.INVALID);
        Check.due("above", x.finish(5), Check.INVALID);
    }

    private static void finishAnswer() {
        Check.sentence("Promise 4", "Returns how many days it took;");
        Check.due("none", begun(0).finish(0), 0);
        TriggerConditions x = Make.onDay(3);
        x.begin(0);
        x.pass(1);
        x.begin(1);
        Check.due("one", x.finish(0), 1);
        x.pass(400);
        Check.due("400", x.finish(1), 400);
        TriggerConditions y = begun(0);
        Make.pass(y, 9999);
        Check.due("most", y.finish(0), 9999);
    }

    private static void finishInvalid() {
        Check.sentence("Promise 4", "INVALID_ARGUMENT if stage is out of range;");
        for (int far : Make.FAR) {
            Check.still("finish(" + far + ")", () -> begun(4), x -> x.finish(far), Check.INVALID);
        }
        Check.still("finish(-1)", Make::fresh, x -> x.finish(-1), Check.INVALID);
        Check.still("finish(5)", Make::fresh, x -> x.finish(5), Check.INVALID);
    }

    private static void finishImpossible() {
        Check.sentence("Promise 4", "NOT_POSSIBLE if it is not begun, or is finished.");
        for (int stage = 0; stage < 5; stage++) {
            int number = stage;
            Check.still("not begun, " + stage, Make::fresh, x -> x.finish(number), Check.IMPOSSIBLE);
            Check.still("finished, " + stage, () -> finished(number), x -> x.finish(number), Check.IMPOSSIBLE);
            if (stage > 0) {
                Check.still("the one ahead is begun, " + stage, () -> begun(number - 1),
                    x -> x.finish(number), Check.IMPOSSIBLE);
            }
        }
    }
}
