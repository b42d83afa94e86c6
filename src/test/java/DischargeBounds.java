/** The boundary cases of the promises 5 to 9; those of the promise 10 are in VaryBounds. */
final class DischargeBounds {
    private DischargeBounds() {
    }

    static void all() {
        applyApplies();
        applyCondition();
        applyParts();
        applyAnswer();
        applyInvalid();
        applyImpossible();
        decideDecides();
        decideCondition();
        decideApproved();
        decideAnswer();
        decideInvalid();
        decideImpossible();
        lapseTells();
        lapseAnswer();
        lapseInvalid();
        lapseImpossible();
        cureEnds();
        cureAnswer();
        cureInvalid();
        cureImpossible();
        serveServes();
        serveDays();
        serveAnswer();
        serveInvalid();
        serveImpossible();
    }

    /** A condition of a kind with parts of it applied for. */
    private static TriggerConditions applied(int kind, int parts, int set) {
        TriggerConditions x = Make.one(kind, 0, 9, parts);
        x.apply(0, set);
        return x;
    }

    private static void applyApplies() {
        Check.sentence("Promise 5", "Applies for the approval of parts of a condition.");
        for (int kind = 0; kind <= 1; kind++) {
            TriggerConditions x = applied(kind, 6, 42);
            Check.due("applied for", x.conditionOf(0, 6), 42);
            Check.due("for days", x.conditionOf(0, 7), 0);
            Check.due("not approved", x.conditionOf(0, 5), 0);
        }
        TriggerConditions y = Make.aheadInBreach();
        Check.due("in breach", y.apply(0, 1), 56);
        TriggerConditions z = Make.immune(Make.aheadInBreach());
        Check.due("immune", z.apply(0, 3), 56);
        Check.due("applied for", z.conditionOf(0, 6), 3);
        TriggerConditions u = Make.ten(0, 0, 0, 1);
        u.apply(9, 1);
        Check.due("of the one alone", u.conditionOf(8, 6), 0);
        Check.due("of the last one", u.conditionOf(9, 6), 1);
    }

    private static void applyCondition() {
        Check.sentence("Promise 5", "condition: number of the condition");
        for (int c = 0; c < 10; c++) {
            TriggerConditions x = Make.ten(0, 0, 0, 1);
            Check.due("apply for " + c, x.apply(c, 1), 56);
            Check.due("applied for is " + c, x.conditionOf(c, 6), 1);
        }
        Check.due("below", Make.ten(0, 0, 0, 1).apply(-1, 1), Check.INVALID);
        Check.due("above", Make.ten(0, 0, 0, 1).apply(10, 1), Check.INVALID);
    }

    private static void applyParts() {
        Check.sentence("Promise 5", "parts: the set of parts, not empty");
        for (int parts = 1; parts <= 6; parts++) {
            for (int set = 1; set < 1 << parts; set++) {
                Check.due(set + " of " + parts + " parts", Make.one(1, 0, 0, parts).apply(0, set), 56);
            }
            Check.due("empty", Make.one(1, 0, 0, parts).apply(0, 0), Check.INVALID);
        }
    }

    private static void applyAnswer() {
        Check.sentence("Promise 5", "Returns setting 0 (behind so many days they count as approved; "
            + "with 0, too, not until the next day passes);");
        Check.due("first value", Make.one(0, 0, 0, 1).apply(0, 1), 56);
        for (int days : new int[] {0, 1, 57, 99}) {
            TriggerConditions x = Make.one(0, 0, 0, 1);
            x.set(0, days);
            Check.due("the setting", x.apply(0, 1), days);
            Check.due("not approved yet", x.conditionOf(0, 4), 1);
            Make.pass(x, Math.max(days, 1) - 1);
            Check.due("not approved a day ahead", x.conditionOf(0, 4), 1);
            x.pass(1);
            Check.due("approved behind " + days, x.conditionOf(0, 4), 2);
        }
    }

    private static void applyInvalid() {
        Check.sentence("Promise 5",
            "INVALID_ARGUMENT if there is no such condition, or the set is empty or has other parts;");
        Check.still("no condition at all", Make::fresh, x -> x.apply(0, 1), Check.INVALID);
        Check.still("the number of the next one", () -> Make.one(0, 0, 0, 1), x -> x.apply(1, 1), Check.INVALID);
        for (int far : Make.FAR) {
            Check.still("apply(" + far + ", 1)", () -> Make.one(0, 0, 0, 1), x -> x.apply(far, 1), Check.INVALID);
            Check.still("apply(0, " + far + ")", () -> Make.one(0, 0, 0, 6), x -> x.apply(0, far), Check.INVALID);
        }
        for (int parts = 1; parts <= 6; parts++) {
            int all = (1 << parts) - 1;
            int number = parts;
            Check.still("empty", () -> Make.one(0, 0, 0, number), x -> x.apply(0, 0), Check.INVALID);
            Check.still("the next part", () -> Make.one(0, 0, 0, number), x -> x.apply(0, all + 1), Check.INVALID);
            Check.still("the next part too", () -> Make.one(0, 0, 0, number), x -> x.apply(0, all + 2), Check.INVALID);
            Check.still("all bits", () -> Make.one(0, 0, 0, number), x -> x.apply(0, -1), Check.INVALID);
        }
        Check.still("kind 2, empty", () -> Make.one(2, 0, 1, 1), x -> x.apply(0, 0), Check.INVALID);
        Check.still("kind 2, other parts", () -> Make.one(2, 0, 1, 1), x -> x.apply(0, 2), Check.INVALID);
        Check.still("applied for, other parts", () -> applied(0, 2, 1), x -> x.apply(0, 4), Check.INVALID);
    }

    private static void applyImpossible() {
        Check.sentence("Promise 5", "NOT_POSSIBLE if the condition is of the kind 2, "
            + "any parts of it are applied for already, or one of these is approved.");
        Check.still("kind 2", () -> Make.one(2, 0, 1, 6), x -> x.apply(0, 1), Check.IMPOSSIBLE);
        Check.still("kind 2, all", () -> Make.one(2, 0, 1, 6), x -> x.apply(0, 63), Check.IMPOSSIBLE);
        for (int kind = 0; kind <= 1; kind++) {
            int anyKind = kind;
            for (int set = 1; set < 8; set++) {
                int parts = set;
                Check.still("part 1 is applied for, " + set, () -> applied(anyKind, 3, 2),
                    x -> x.apply(0, parts), Check.IMPOSSIBLE);
                if ((set & 2) != 0) {
                    Check.still("part 1 is approved, " + set, () -> {
                        TriggerConditions x = applied(anyKind, 3, 2);
                        x.decide(0, 2);
                        return x;
                    }, x -> x.apply(0, parts), Check.IMPOSSIBLE);
                }
            }
            TriggerConditions y = applied(kind, 3, 2);
            y.decide(0, 2);
            Check.due("the others", y.apply(0, 5), 56);
            TriggerConditions z = applied(kind, 3, 7);
            z.decide(0, 0);
            Check.due("none was approved", z.apply(0, 7), 56);
        }
    }

    private static void decideDecides() {
        Check.sentence("Promise 6",
            "Decides the application for parts of a condition: some are approved, the others are open again.");
        for (int approved = 0; approved < 8; approved++) {
            TriggerConditions x = applied(1, 4, 7);
            x.pass(5);
            x.decide(0, approved);
            Check.due("approved", x.conditionOf(0, 5), approved);
            Check.due("nothing is applied for", x.conditionOf(0, 6), 0);
            Check.due("for no days", x.conditionOf(0, 7), Check.MISSING);
            Check.due("the others are open", x.apply(0, 15 - approved), 56);
            Check.due("for days from 0 again", x.conditionOf(0, 7), 0);
        }
        TriggerConditions y = Make.immune(Make.aheadInBreach());
        y.apply(0, 3);
        Check.due("immune", y.decide(0, 3), 0);
        Check.due("approved", y.conditionOf(0, 5), 3);
        Check.due("stays immune", y.conditionOf(0, 4), 4);
    }

    private static void decideCondition() {
        Check.sentence("Promise 6", "condition: number of the condition");
        for (int c = 0; c < 10; c += 9) {
            TriggerConditions x = Make.ten(0, 0, 0, 2);
            x.apply(0, 3);
            x.apply(9, 3);
            Check.due("decide of " + c, x.decide(c, 1), 1);
            Check.due("the other one is not", x.conditionOf(9 - c, 6), 3);
        }
        Check.due("below", Make.ten(0, 0, 0, 1).decide(-1, 0), Check.INVALID);
        Check.due("above", Make.ten(0, 0, 0, 1).decide(10, 0), Check.INVALID);
    }

    private static void decideApproved() {
        Check.sentence("Promise 6", "approved: the set of those that are approved (perhaps empty)");
        for (int parts = 1; parts <= 6; parts++) {
            int all = (1 << parts) - 1;
            Check.due("empty", applied(0, parts, all).decide(0, 0), parts);
            Check.due("all", applied(0, parts, all).decide(0, all), 0);
            Check.due("the last one", applied(0, parts, all).decide(0, 1 << parts - 1), parts - 1);
        }
    }

    private static void decideAnswer() {
        Check.sentence("Promise 6", "Returns how many parts of the condition are not approved then;");
        TriggerConditions x = applied(0, 6, 3);
        Check.due("open ones too", x.decide(0, 1), 5);
        x.apply(0, 2);
        Check.due("approved earlier", x.decide(0, 2), 4);
        x.apply(0, 12);
        Check.due("none now", x.decide(0, 0), 4);
        x.apply(0, 60);
        Check.due("no one", x.decide(0, 60), 0);
    }

    private static void decideInvalid() {
        Check.sentence("Promise 6", "INVALID_ARGUMENT if there is no such condition, or the set is no set of its parts;");
        Check.still("no condition at all", Make::fresh, x -> x.decide(0, 0), Check.INVALID);
        Check.still("the number of the next one", () -> applied(0, 1, 1), x -> x.decide(1, 0), Check.INVALID);
        for (int far : Make.FAR) {
            Check.still("decide(" + far + ", 0)", () -> applied(0, 6, 63), x -> x.decide(far, 0), Check.INVALID);
            Check.still("decide(0, " + far + ")", () -> applied(0, 6, 63), x -> x.decide(0, far), Check.INVALID);
        }
        for (int parts = 1; parts <= 6; parts++) {
            int all = (1 << parts) - 1;
            int number = parts;
            Check.still("the next part", () -> applied(0, number, all), x -> x.decide(0, all + 1), Check.INVALID);
            Check.still("all bits", () -> applied(0, number, all), x -> x.decide(0, -1), Check.INVALID);
        }
        Check.still("other parts, none applied for", () -> Make.one(0, 0, 0, 1), x -> x.decide(0, 2), Check.INVALID);
        Check.still("other parts, kind 2", () -> Make.one(2, 0, 1, 1), x -> x.decide(0, 2), Check.INVALID);
    }

    private static void decideImpossible() {
        Check.sentence("Promise 6", "NOT_POSSIBLE if one of these is not applied for, or none at all is.");
        for (int kind = 0; kind <= 2; kind++) {
            int anyKind = kind;
            Check.still("none, kind " + kind, () -> Make.one(anyKind, 0, 1, 2), x -> x.decide(0, 0), Check.IMPOSSIBLE);
            Check.still("none, kind " + kind, () -> Make.one(anyKind, 0, 1, 2), x -> x.decide(0, 3), Check.IMPOSSIBLE);
        }
        for (int set = 1; set < 8; set++) {
            int parts = set;
            if ((set & ~5) != 0) {
                Check.still("part 1 is open, " + set, () -> applied(0, 3, 5), x -> x.decide(0, parts), Check.IMPOSSIBLE);
            }
        }
        Check.still("part 1 is approved", () -> {
            TriggerConditions x = applied(0, 3, 2);
            x.decide(0, 2);
            x.apply(0, 5);
            return x;
        }, x -> x.decide(0, 7), Check.IMPOSSIBLE);
        Check.still("decided already", () -> {
            TriggerConditions x = applied(0, 3, 2);
            x.decide(0, 0);
            return x;
        }, x -> x.decide(0, 2), Check.IMPOSSIBLE);
        Check.still("they count as approved already", () -> {
            TriggerConditions x = applied(0, 3, 2);
            x.pass(56);
            return x;
        }, x -> x.decide(0, 2), Check.IMPOSSIBLE);
    }

    private static void lapseTells() {
        Check.sentence("Promise 7", "Tells that a condition of the kind 2 has lapsed.");
        TriggerConditions x = Make.ten(2, 0, 9, 1);
        x.begin(0);
        x.finish(0);
        x.pass(1);
        Check.due("the last one", x.lapse(9), 1);
        Check.due("in breach", x.which(3), 512);
        Check.due("a breach", x.count(4), 1);
        Check.due("the first one", x.lapse(0), 1);
        Check.due("in breach", x.which(3), 513);
    }

    private static void lapseAnswer() {
        Check.sentence("Promise 7", "Returns for how many days it was kept;");
        for (int kept : new int[] {0, 1, 364}) {
            TriggerConditions x = Make.keptRunning(365);
            Make.pass(x, kept);
            Check.due("kept for", x.lapse(0), kept);
        }
        TriggerConditions y = Make.keptInBreach(9, 3);
        y.pass(4);
        y.cure(0);
        y.pass(2);
        Check.due("not in breach", y.lapse(0), 5);
    }

    private static void lapseInvalid() {
        Check.sentence("Promise 7", "condition: number of the condition");
        noSuchCondition("lapse", Make.keptRunning(9).lapse(-1), Make.keptRunning(9).lapse(1), new TriggerConditions().lapse(0));
        Check.sentence("Promise 7", "INVALID_ARGUMENT;");
        for (int far : Make.FAR) {
            Check.still("lapse(" + far + ")", () -> Make.keptRunning(9), x -> x.lapse(far), Check.INVALID);
        }
        Check.still("lapse(10) of ten", () -> Make.ten(2, 0, 1, 1), x -> x.lapse(10), Check.INVALID);
    }

    private static void noSuchCondition(String call, int below, int above, int ofNone) {
        Check.due(call + " of -1", below, Check.INVALID);
        Check.due(call + " of the next number", above, Check.INVALID);
        Check.due(call + " with no condition", ofNone, Check.INVALID);
    }

    private static void lapseImpossible() {
        Check.sentence("Promise 7", "NOT_POSSIBLE if its state is not 1, or it is of another kind.");
        Check.still("asleep, not begun", () -> Make.one(2, 0, 9, 1), x -> x.lapse(0), Check.IMPOSSIBLE);
        Check.still("asleep, begun", () -> {
            TriggerConditions x = Make.one(2, 0, 9, 1);
            x.begin(0);
            return x;
        }, x -> x.lapse(0), Check.IMPOSSIBLE);
        Check.still("met", () -> {
            TriggerConditions x = Make.keptRunning(1);
            x.pass(1);
            return x;
        }, x -> x.lapse(0), Check.IMPOSSIBLE);
        Check.still("in breach", () -> Make.keptInBreach(9, 1), x -> x.lapse(0), Check.IMPOSSIBLE);
        Check.still("immune", () -> Make.immune(Make.keptInBreach(9, 1)), x -> x.lapse(0), Check.IMPOSSIBLE);
        Check.still("kind 0, running", () -> Make.one(0, 0, 9, 1), x -> x.lapse(0), Check.IMPOSSIBLE);
        Check.still("kind 1, running", () -> Make.withinRunning(9, 1), x -> x.lapse(0), Check.IMPOSSIBLE);
    }

    private static void cureEnds() {
        Check.sentence("Promise 8",
            "Ends the breach of a condition of the kind 2; the days for which it was kept go on from where they were.");
        for (int kept : new int[] {0, 1, 8}) {
            TriggerConditions x = Make.keptInBreach(9, kept);
            x.pass(3);
            x.cure(0);
            Check.due("running", x.conditionOf(0, 4), 1);
            Check.due("from where they were", x.conditionOf(0, 8), kept);
            x.pass(1);
            Check.due("on", x.conditionOf(0, 8), kept + 1);
            Check.due("met with the last day", x.conditionOf(0, 4), kept == 8 ? 2 : 1);
        }
    }

    private static void cureAnswer() {
        Check.sentence("Promise 8", "Returns the age of the breach;");
        for (int age : new int[] {0, 1, 99}) {
            TriggerConditions x = Make.keptInBreach(9, 2);
            Make.pass(x, age);
            Check.due("age", x.cure(0), age);
        }
        TriggerConditions y = Make.keptInBreach(9, 2);
        y.serve(0, 1);
        y.pass(400);
        Check.due("with a notice", y.cure(0), 400);
        y.lapse(0);
        Check.due("of the second breach", y.cure(0), 0);
    }

    private static void cureInvalid() {
        Check.sentence("Promise 8", "condition: number of the condition");
        noSuchCondition("cure", Make.keptInBreach(9, 1).cure(-1), Make.keptInBreach(9, 1).cure(1),
            new TriggerConditions().cure(0));
        Check.sentence("Promise 8", "INVALID_ARGUMENT;");
        for (int far : Make.FAR) {
            Check.still("cure(" + far + ")", () -> Make.keptInBreach(9, 1), x -> x.cure(far), Check.INVALID);
        }
        Check.still("cure(10) of ten", () -> Make.ten(2, 0, 1, 1), x -> x.cure(10), Check.INVALID);
    }

    private static void cureImpossible() {
        Check.sentence("Promise 8", "NOT_POSSIBLE if its state is not 3, or it is of another kind.");
        Check.still("asleep", () -> Make.one(2, 0, 9, 1), x -> x.cure(0), Check.IMPOSSIBLE);
        Check.still("running", () -> Make.keptRunning(9), x -> x.cure(0), Check.IMPOSSIBLE);
        Check.still("met", () -> {
            TriggerConditions x = Make.keptRunning(1);
            x.pass(1);
            return x;
        }, x -> x.cure(0), Check.IMPOSSIBLE);
        Check.still("immune", () -> Make.immune(Make.keptInBreach(9, 1)), x -> x.cure(0), Check.IMPOSSIBLE);
        Check.still("kind 0, in breach", Make::aheadInBreach, x -> x.cure(0), Check.IMPOSSIBLE);
        Check.still("kind 1, in breach", Make::withinInBreach, x -> x.cure(0), Check.IMPOSSIBLE);
    }

    private static void serveServes() {
        Check.sentence("Promise 9", "Serves a notice on a condition that is in breach, in place of one that was served.");
        TriggerConditions x = Make.aheadInBreach();
        x.serve(0, 50);
        Check.due("served", x.conditionOf(0, 10), 50);
        x.serve(0, 3);
        Check.due("fewer days", x.conditionOf(0, 10), 3);
        x.serve(0, 60);
        Check.due("more days", x.conditionOf(0, 10), 60);
        x.pass(62);
        Check.due("none left", x.conditionOf(0, 10), 0);
        Check.due("overdue", x.conditionOf(0, 11), 2);
        x.serve(0, 5);
        Check.due("in place of one without days left", x.conditionOf(0, 10), 5);
        Check.due("overdue stays", x.conditionOf(0, 11), 2);
        Check.due("the age stays", x.conditionOf(0, 9), 62);
    }

    private static void serveDays() {
        Check.sentence("Promise 9", "days: 1 to 99: the days that are left");
        for (int days : new int[] {1, 2, 98, 99}) {
            TriggerConditions x = Make.aheadInBreach();
            Check.due("serve(0, " + days + ")", x.serve(0, days), 0);
            Check.due("days left", x.conditionOf(0, 10), days);
        }
        Check.due("below", Make.aheadInBreach().serve(0, 0), Check.INVALID);
        Check.due("above", Make.aheadInBreach().serve(0, 100), Check.INVALID);
    }

    private static void serveAnswer() {
        Check.sentence("Promise 9", "Returns the age of the breach;");
        for (int age : new int[] {0, 1, 99}) {
            TriggerConditions[] breaches = {Make.aheadInBreach(), Make.withinInBreach(), Make.keptInBreach(9, 2)};
            for (TriggerConditions x : breaches) {
                Make.pass(x, age);
                Check.due("age", x.serve(0, 7), age);
                x.pass(2);
                Check.due("age, a second notice", x.serve(0, 7), age + 2);
            }
        }
    }

    private static void serveInvalid() {
        Check.sentence("Promise 9", "condition: number of the condition");
        noSuchCondition("serve", Make.aheadInBreach().serve(-1, 1), Make.aheadInBreach().serve(1, 1),
            new TriggerConditions().serve(0, 1));
        TriggerConditions ten = Make.ten(0, 0, 0, 1);
        ten.begin(0);
        Check.due("the last one", ten.serve(9, 4), 0);
        Check.due("days left", ten.conditionOf(9, 10), 4);
        Check.due("the one ahead", ten.conditionOf(8, 10), Check.MISSING);
        Check.sentence("Promise 9", "INVALID_ARGUMENT if an argument is out of range;");
        for (int far : Make.FAR) {
            Check.still("serve(" + far + ", 1)", Make::aheadInBreach, x -> x.serve(far, 1), Check.INVALID);
            Check.still("serve(0, " + far + ")", Make::aheadInBreach, x -> x.serve(0, far), Check.INVALID);
        }
        Check.still("serve(0, 0)", Make::aheadInBreach, x -> x.serve(0, 0), Check.INVALID);
        Check.still("serve(0, 100)", Make::aheadInBreach, x -> x.serve(0, 100), Check.INVALID);
        Check.still("serve(0, 0), running", () -> Make.one(0, 0, 0, 1), x -> x.serve(0, 0), Check.INVALID);
        Check.still("serve(0, 100), running", () -> Make.one(0, 0, 0, 1), x -> x.serve(0, 100), Check.INVALID);
    }

    private static void serveImpossible() {
        Check.sentence("Promise 9", "NOT_POSSIBLE if its state is not 3.");
        Check.still("asleep", () -> Make.one(1, 0, 9, 1), x -> x.serve(0, 1), Check.IMPOSSIBLE);
        Check.still("running, kind 0", () -> Make.one(0, 0, 9, 1), x -> x.serve(0, 1), Check.IMPOSSIBLE);
        Check.still("running, kind 1", () -> Make.withinRunning(9, 1), x -> x.serve(0, 99), Check.IMPOSSIBLE);
        Check.still("running, kind 2", () -> Make.keptRunning(9), x -> x.serve(0, 99), Check.IMPOSSIBLE);
        Check.still("met", () -> {
            TriggerConditions x = Make.overdue(2);
            Make.approve(x, 0, 3);
            return x;
        }, x -> x.serve(0, 1), Check.IMPOSSIBLE);
        Check.still("immune", () -> Make.immune(Make.aheadInBreach()), x -> x.serve(0, 1), Check.IMPOSSIBLE);
    }
}
