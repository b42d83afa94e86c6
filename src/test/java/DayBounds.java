/** The boundary cases of the head "A day". */
final class DayBounds {
    private DayBounds() {
    }

    static void all() {
        theDay();
        everyCondition();
        countAsApproved();
        clockRuns();
        daysKept();
        ageGrows();
        daysOfTheNotice();
        overdue();
        immune();
    }

    private static void theDay() {
        Check.sentence("A day", "When a day passes, the day becomes greater by 1");
        TriggerConditions x = new TriggerConditions();
        Check.due("one", x.pass(1), 1);
        Check.due("400", x.pass(400), 401);
        Check.due("the day", x.count(1), 401);
        Check.due("the first day with a day's effect", Make.withinInBreach().count(1), 1);
    }

    private static void everyCondition() {
        Check.sentence("A day", "then, step by step, for each condition in order:");
        TriggerConditions x = new TriggerConditions();
        for (int i = 0; i < 10; i++) {
            x.condition(1, 0, i, 1);
        }
        x.begin(0);
        for (int day = 1; day <= 10; day++) {
            x.pass(1);
            Check.due("in breach on the day " + day, x.which(3), (1 << day) - 1);
        }
        TriggerConditions y = Make.withinRunning(0, 1);
        y.set(0, 1);
        y.apply(0, 1);
        y.pass(1);
        Check.due("step 1 ahead of step 2: met, and no breach", y.count(4), 0);
        TriggerConditions z = Make.withinRunning(0, 1);
        z.set(1, 1);
        z.pass(1);
        Check.due("the breach of step 2 is none ahead of this day", z.conditionOf(0, 9), 0);
        Check.due("immune a day later", z.when(0, 4), 1);
        TriggerConditions u = Make.overdue(1);
        u.set(0, 0);
        u.apply(0, 3);
        u.pass(1);
        Check.due("step 1 ahead of step 3: not overdue for one more", u.conditionOf(0, 11), 1);
    }

    private static void countAsApproved() {
        Check.sentence("A day", "Parts that are applied for, for as many days as setting 0 now tells, or more, are approved "
            + "(they count as approved).");
        for (int days : new int[] {0, 1, 2, 55, 56, 98, 99}) {
            TriggerConditions x = Make.one(0, 0, 0, 6);
            x.set(0, days);
            x.apply(0, 62);
            Check.due("not at once", x.conditionOf(0, 5), 0);
            Make.pass(x, days - 1);
            Check.due("one day less than " + days, x.conditionOf(0, 5), 0);
            Check.due("for days", x.conditionOf(0, 7), Math.max(days - 1, 0));
            x.pass(1);
            Check.due("as many days as " + days, x.conditionOf(0, 5), 62);
            Check.due("applied for no more", x.conditionOf(0, 6), 0);
            Check.due("without a decision", x.count(5), 5);
            x.pass(100);
            Check.due("those that were not applied for", x.conditionOf(0, 5), 62);
        }
        TriggerConditions y = Make.one(0, 0, 0, 1);
        y.apply(0, 1);
        y.pass(50);
        y.set(0, 99);
        y.pass(40);
        Check.due("the setting now, not that of the application", y.conditionOf(0, 5), 0);
        y.set(0, 10);
        Check.due("a setting is no day", y.conditionOf(0, 5), 0);
        y.pass(1);
        Check.due("or more", y.conditionOf(0, 5), 1);
    }

    private static int clockBehind(TriggerConditions x, int days) {
        Make.pass(x, days);
        return x.conditionOf(0, 8);
    }

    private static void clockRuns() {
        Check.sentence("A day", "Of the kind 1, if its stage is begun, it is not met, not in breach and not immune, and nothing "
            + "is applied for: its clock is greater by 1; if that is more than its days, it is in breach.");
        Check.due("begun", clockBehind(Make.withinRunning(9, 2), 1), 1);
        Check.due("not begun", clockBehind(Make.one(1, 0, 9, 2), 1), 0);
        TriggerConditions ahead = Make.one(1, 1, 9, 2);
        ahead.begin(0);
        Check.due("the one ahead is begun", clockBehind(ahead, 1), 0);
        TriggerConditions met = Make.withinRunning(9, 2);
        Make.approve(met, 0, 3);
        Check.due("met", clockBehind(met, 1), 0);
        TriggerConditions half = Make.withinRunning(9, 2);
        Make.approve(half, 0, 2);
        Check.due("half met", clockBehind(half, 1), 1);
        Check.due("in breach", clockBehind(Make.withinInBreach(), 5), 1);
        Check.due("immune", clockBehind(Make.immune(Make.withinInBreach()), 5), 1);
        TriggerConditions open = Make.withinRunning(9, 2);
        open.apply(0, 1);
        Check.due("applied for", clockBehind(open, 55), 0);
        Check.due("on the day on which they count as approved", clockBehind(open, 1), 1);
        Check.due("more than its days", Make.withinInBreach().conditionOf(0, 4), 3);
        TriggerConditions edge = Make.withinRunning(1, 2);
        edge.pass(1);
        Check.due("as much as its days", edge.conditionOf(0, 4), 1);
        edge.apply(0, 1);
        edge.pass(55);
        Check.due("as much as its days, stopped", edge.conditionOf(0, 4), 1);
        edge.pass(1);
        Check.due("no longer stopped", edge.conditionOf(0, 4), 3);
        Check.due("one breach", edge.count(4), 1);
        TriggerConditions other = Make.one(0, 0, 9, 1);
        other.begin(0);
        Check.due("kind 0 has no clock", clockBehind(other, 20), 0);
    }

    private static void daysKept() {
        Check.sentence("A day", "Of the kind 2, if its stage is finished, and it is not met, not in breach and not immune: "
            + "it is kept for 1 day more.");
        Check.due("finished", clockBehind(Make.keptRunning(9), 1), 1);
        TriggerConditions begun = Make.one(2, 0, 9, 1);
        Check.due("not begun", clockBehind(begun, 1), 0);
        begun.begin(0);
        Check.due("not finished", clockBehind(begun, 1), 0);
        TriggerConditions other = Make.one(2, 1, 9, 1);
        Make.beginTo(other, 1);
        other.finish(0);
        Check.due("another one is finished", clockBehind(other, 1), 0);
        Check.due("met", clockBehind(Make.keptRunning(9), 10), 9);
        Check.due("in breach", clockBehind(Make.keptInBreach(9, 4), 3), 4);
        Check.due("immune", clockBehind(Make.immune(Make.keptInBreach(9, 4)), 30), 4);
    }

    private static void ageGrows() {
        Check.sentence("A day", "If it was in breach ahead of this day, and still is: its age is greater by 1;");
        TriggerConditions x = Make.aheadInBreach();
        x.pass(1);
        Check.due("ahead of this day", x.conditionOf(0, 9), 1);
        x.apply(0, 3);
        x.pass(1);
        Check.due("an application does not stop it", x.conditionOf(0, 9), 2);
        x.serve(0, 1);
        x.pass(2);
        Check.due("a notice does not stop it", x.conditionOf(0, 9), 4);
        TriggerConditions y = Make.withinRunning(3, 1);
        y.pass(4);
        Check.due("in breach on this day alone", y.conditionOf(0, 9), 0);
        y.pass(1);
        Check.due("a day later", y.conditionOf(0, 9), 1);
        TriggerConditions z = Make.keptInBreach(9, 2);
        z.pass(1);
        Check.due("kind 2", z.conditionOf(0, 9), 1);
        x.set(0, 1);
        x.pass(1);
        Check.due("in breach no more", x.conditionOf(0, 9), Check.MISSING);
    }

    private static void daysOfTheNotice() {
        Check.sentence("A day", "with a notice that has days left, these are less by 1;");
        for (int days : new int[] {1, 2, 99}) {
            TriggerConditions x = Make.aheadInBreach();
            x.serve(0, days);
            x.pass(1);
            Check.due("one less than " + days, x.conditionOf(0, 10), days - 1);
            Make.pass(x, days - 1);
            Check.due("none of " + days, x.conditionOf(0, 10), 0);
            Check.due("not overdue yet", x.conditionOf(0, 11), 0);
            x.pass(1);
            Check.due("not below 0", x.conditionOf(0, 10), 0);
        }
    }

    private static void overdue() {
        Check.sentence("A day", "with a notice without days left, it is overdue for 1 day more;");
        TriggerConditions x = Make.aheadInBreach();
        x.serve(0, 2);
        x.pass(2);
        Check.due("the last day left", x.conditionOf(0, 11), 0);
        x.pass(1);
        Check.due("without days left", x.conditionOf(0, 11), 1);
        x.pass(9);
        Check.due("ten", x.conditionOf(0, 11), 10);
        x.serve(0, 1);
        x.pass(1);
        Check.due("a new notice", x.conditionOf(0, 11), 10);
        x.pass(1);
        Check.due("without days left again", x.conditionOf(0, 11), 11);
        TriggerConditions y = Make.aheadInBreach();
        y.pass(99);
        Check.due("without a notice", y.conditionOf(0, 11), 0);
    }

    private static void immune() {
        Check.sentence("A day", "without a notice, if its age is setting 1 or more now, it becomes immune "
            + "(it is in breach no more then, for ever).");
        for (int age : new int[] {1, 2, 100, 364, 365}) {
            TriggerConditions x = Make.aheadInBreach();
            x.set(1, age);
            Make.pass(x, age - 1);
            Check.due("one day less than " + age, x.conditionOf(0, 4), 3);
            x.pass(1);
            Check.due("at the age of " + age, x.conditionOf(0, 4), 4);
            Check.due("in breach no more", x.conditionOf(0, 9), Check.MISSING);
        }
        TriggerConditions y = Make.aheadInBreach();
        y.pass(60);
        y.set(1, 20);
        Check.due("a setting is no day", y.conditionOf(0, 4), 3);
        y.pass(1);
        Check.due("or more", y.conditionOf(0, 4), 4);
        y.set(1, 365);
        y.pass(400);
        Check.due("for ever", y.conditionOf(0, 4), 4);
        TriggerConditions z = Make.aheadInBreach();
        z.serve(0, 99);
        z.pass(100);
        Check.due("not with a notice", z.conditionOf(0, 4), 3);
        z.pass(100);
        Check.due("not with a notice without days left", z.conditionOf(0, 4), 3);
        TriggerConditions u = Make.immune(Make.withinInBreach());
        u.pass(400);
        Check.due("no breach again of the kind 1", u.conditionOf(0, 4), 4);
        TriggerConditions v = Make.immune(Make.keptInBreach(2, 1));
        v.pass(400);
        Check.due("never met of the kind 2", v.conditionOf(0, 4), 4);
        Check.due("one breach", v.count(4), 1);
    }
}
