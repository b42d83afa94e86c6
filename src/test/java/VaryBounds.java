import java.util.function.Supplier;

/** The boundary cases of the promise 10. */
final class VaryBounds {
    private static final int DAYS = 0;
    private static final int PARTS = 1;
    private static final int STAGE = 2;

    private VaryBounds() {
    }

    static void all() {
        condition();
        what();
        value();
        answer();
        invalid();
        otherStates();
        appliedFor();
        clockOrDaysKept();
        partsThatThereAre();
        begunStage();
        clockIsZero();
    }

    private static void condition() {
        Check.sentence("Promise 10", "Varies a condition.");
        TriggerConditions x = Make.ten(1, 1, 9, 2);
        x.vary(9, DAYS, 5);
        x.vary(9, PARTS, 6);
        x.vary(9, STAGE, 4);
        int[] due = {1, 4, 5, 6};
        for (int i = 0; i < 4; i++) {
            Check.due("what " + i, x.conditionOf(9, i), due[i]);
            Check.due("what " + i + " of another one", x.conditionOf(8, i), new int[] {1, 1, 9, 2}[i]);
        }
        Check.sentence("Promise 10", "condition: number of the condition");
        for (int c = 0; c < 10; c++) {
            Check.due("vary of " + c, x.vary(c, DAYS, 20 + c), c == 9 ? 5 : 9);
            Check.due("days of " + c, x.conditionOf(c, 2), 20 + c);
        }
        Check.due("below", x.vary(-1, DAYS, 1), Check.INVALID);
        Check.due("above", x.vary(10, DAYS, 1), Check.INVALID);
    }

    private static void what() {
        Check.sentence("Promise 10", "what: 0: its days; 1: its parts; 2: its stage");
        int[] places = {2, 3, 1};
        for (int what = 0; what <= 2; what++) {
            TriggerConditions x = Make.one(0, 1, 3, 2);
            x.vary(0, what, 4);
            int[] due = {0, 1, 3, 2};
            due[places[what]] = 4;
            for (int i = 0; i < 4; i++) {
                Check.due("what " + i + " behind vary of " + what, x.conditionOf(0, i), due[i]);
            }
        }
        Check.due("below", Make.one(0, 1, 3, 2).vary(0, -1, 4), Check.INVALID);
        Check.due("above", Make.one(0, 1, 3, 2).vary(0, 3, 4), Check.INVALID);
    }

    private static void value() {
        Check.sentence("Promise 10", "value: 0 to 365 (of the kind 2 at least 1); 1 to 6; 0 to 4");
        for (int kind = 0; kind <= 2; kind++) {
            Check.due("days below, kind " + kind, Make.one(kind, 1, 7, 1).vary(0, DAYS, -1), Check.INVALID);
            Check.due("days 0, kind " + kind, Make.one(kind, 1, 7, 1).vary(0, DAYS, 0), kind == 2 ? Check.INVALID : 7);
            Check.due("days 1, kind " + kind, Make.one(kind, 1, 7, 1).vary(0, DAYS, 1), 7);
            Check.due("days 365, kind " + kind, Make.one(kind, 1, 7, 1).vary(0, DAYS, 365), 7);
            Check.due("days above, kind " + kind, Make.one(kind, 1, 7, 1).vary(0, DAYS, 366), Check.INVALID);
            Check.due("parts below, kind " + kind, Make.one(kind, 1, 7, 1).vary(0, PARTS, 0), Check.INVALID);
            Check.due("parts 1, kind " + kind, Make.one(kind, 1, 7, 1).vary(0, PARTS, 1), Check.IMPOSSIBLE);
            Check.due("parts 2, kind " + kind, Make.one(kind, 1, 7, 1).vary(0, PARTS, 2), 1);
            Check.due("parts 6, kind " + kind, Make.one(kind, 1, 7, 1).vary(0, PARTS, 6), 1);
            Check.due("parts above, kind " + kind, Make.one(kind, 1, 7, 1).vary(0, PARTS, 7), Check.INVALID);
            Check.due("stage below, kind " + kind, Make.one(kind, 1, 7, 1).vary(0, STAGE, -1), Check.INVALID);
            for (int stage = 0; stage <= 4; stage++) {
                Check.due("stage, kind " + kind, Make.one(kind, 1, 7, 1).vary(0, STAGE, stage), 1);
            }
            Check.due("stage above, kind " + kind, Make.one(kind, 1, 7, 1).vary(0, STAGE, 5), Check.INVALID);
        }
    }

    private static void answer() {
        Check.sentence("Promise 10", "Returns what it was;");
        TriggerConditions x = Make.one(0, 0, 365, 1);
        Check.due("days", x.vary(0, DAYS, 0), 365);
        Check.due("days again", x.vary(0, DAYS, 0), 0);
        Check.due("days", x.vary(0, DAYS, 12), 0);
        Check.due("parts", x.vary(0, PARTS, 5), 1);
        Check.due("parts", x.vary(0, PARTS, 6), 5);
        Check.due("stage", x.vary(0, STAGE, 4), 0);
        Check.due("stage", x.vary(0, STAGE, 0), 4);
        Check.due("stage again", x.vary(0, STAGE, 0), 0);
    }

    private static void invalid() {
        Check.sentence("Promise 10", "INVALID_ARGUMENT if an argument is out of range;");
        for (int far : Make.FAR) {
            Check.still("condition " + far, () -> Make.one(0, 0, 3, 1), x -> x.vary(far, DAYS, 1), Check.INVALID);
            Check.still("what " + far, () -> Make.one(0, 0, 3, 1), x -> x.vary(0, far, 1), Check.INVALID);
            for (int what = 0; what <= 2; what++) {
                int any = what;
                Check.still("value " + far + " of " + what, () -> Make.one(0, 0, 3, 1),
                    x -> x.vary(0, any, far), Check.INVALID);
            }
        }
        Check.still("no condition at all", Make::fresh, x -> x.vary(0, DAYS, 1), Check.INVALID);
        Supplier<TriggerConditions> immune = () -> Make.immune(Make.keptInBreach(9, 2));
        int[][] bad = {{DAYS, 0}, {DAYS, 366}, {PARTS, 0}, {PARTS, 7}, {STAGE, -1}, {STAGE, 5}, {3, 1}, {-1, 1}};
        for (int[] b : bad) {
            Check.still("immune, vary(0, " + b[0] + ", " + b[1] + ")", immune, x -> x.vary(0, b[0], b[1]), Check.INVALID);
        }
    }

    private static void none(String told, Supplier<TriggerConditions> made) {
        Check.still("days, " + told, made, x -> x.vary(0, DAYS, 300), Check.IMPOSSIBLE);
        Check.still("parts, " + told, made, x -> x.vary(0, PARTS, 6), Check.IMPOSSIBLE);
        Check.still("stage, " + told, made, x -> x.vary(0, STAGE, 4), Check.IMPOSSIBLE);
    }

    private static void each(String told, Supplier<TriggerConditions> made) {
        Check.due("days, " + told, made.get().vary(0, DAYS, 300), 9);
        Check.due("parts, " + told, made.get().vary(0, PARTS, 6), made.get().conditionOf(0, 3));
        Check.due("stage, " + told, made.get().vary(0, STAGE, 4), 0);
    }

    private static void otherStates() {
        Check.sentence("Promise 10", "NOT_POSSIBLE if its state is not 0 or 1,");
        each("running, kind 0", () -> Make.one(0, 0, 9, 2));
        each("running, kind 1", () -> Make.withinRunning(9, 2));
        each("running, kind 2", () -> Make.keptRunning(9));
        each("asleep, kind 1", () -> Make.one(1, 0, 9, 2));
        each("asleep, kind 2", () -> Make.one(2, 0, 9, 2));
        for (int kind = 0; kind <= 1; kind++) {
            int anyKind = kind;
            none("met, kind " + kind, () -> {
                TriggerConditions x = Make.one(anyKind, 0, 9, 1);
                Make.approve(x, 0, 1);
                return x;
            });
        }
        none("met, kind 2", () -> {
            TriggerConditions x = Make.keptRunning(2);
            x.pass(2);
            return x;
        });
        none("in breach, kind 0", Make::aheadInBreach);
        none("in breach, kind 1", Make::withinInBreach);
        none("in breach, kind 2", () -> Make.keptInBreach(9, 2));
        none("immune, kind 0", () -> Make.immune(Make.aheadInBreach()));
        none("immune, kind 1", () -> Make.immune(Make.withinInBreach()));
        none("immune, kind 2", () -> Make.immune(Make.keptInBreach(9, 2)));
    }

    private static void appliedFor() {
        Check.sentence("Promise 10", "if parts of it are applied for,");
        for (int part = 0; part < 3; part++) {
            int set = 1 << part;
            none("applied for, kind 0", () -> {
                TriggerConditions x = Make.one(0, 0, 9, 3);
                x.apply(0, set);
                return x;
            });
            none("applied for, kind 1", () -> {
                TriggerConditions x = Make.withinRunning(9, 3);
                x.apply(0, set);
                return x;
            });
            each("decided", () -> {
                TriggerConditions x = Make.one(0, 0, 9, 3);
                x.apply(0, set);
                x.decide(0, 0);
                return x;
            });
        }
    }

    private static void clockOrDaysKept() {
        Check.sentence("Promise 10", "for 0 if its clock is greater than value, or it was kept for value days or more already,");
        for (int clock : new int[] {1, 2, 365}) {
            Supplier<TriggerConditions> within = () -> {
                TriggerConditions x = Make.withinRunning(365, 1);
                Make.pass(x, clock);
                return x;
            };
            Check.still("clock " + clock + ", less", within, x -> x.vary(0, DAYS, clock - 1), Check.IMPOSSIBLE);
            Check.still("clock " + clock + ", none", within, x -> x.vary(0, DAYS, 0), Check.IMPOSSIBLE);
            TriggerConditions same = within.get();
            Check.due("as great as the clock", same.vary(0, DAYS, clock), 365);
            Check.due("no breach by that", same.conditionOf(0, 4), 1);
            same.pass(1);
            Check.due("on the next day", same.conditionOf(0, 4), 3);
        }
        for (int kept : new int[] {1, 2, 363}) {
            Supplier<TriggerConditions> running = () -> {
                TriggerConditions x = Make.keptRunning(365);
                Make.pass(x, kept);
                return x;
            };
            Check.still("kept for " + kept + ", as many", running, x -> x.vary(0, DAYS, kept), Check.IMPOSSIBLE);
            Check.still("kept for " + kept + ", 1", running, x -> x.vary(0, DAYS, 1), Check.IMPOSSIBLE);
            TriggerConditions more = running.get();
            Check.due("one more", more.vary(0, DAYS, kept + 1), 365);
            Check.due("not met by that", more.conditionOf(0, 4), 1);
            more.pass(1);
            Check.due("on the next day", more.conditionOf(0, 4), 2);
        }
        Check.due("not kept yet", Make.keptRunning(365).vary(0, DAYS, 1), 365);
        Check.due("a clock of 0", Make.withinRunning(365, 1).vary(0, DAYS, 0), 365);
        Check.due("kind 0", Make.one(0, 0, 365, 1).vary(0, DAYS, 0), 365);
    }

    private static void partsThatThereAre() {
        Check.sentence("Promise 10", "for 1 if value is not more than its parts,");
        for (int kind = 0; kind <= 2; kind++) {
            int anyKind = kind;
            for (int parts = 1; parts <= 6; parts++) {
                int there = parts;
                Check.still("as many as " + parts, () -> Make.one(anyKind, 0, 9, there),
                    x -> x.vary(0, PARTS, there), Check.IMPOSSIBLE);
                if (parts > 1) {
                    Check.still("less than " + parts, () -> Make.one(anyKind, 0, 9, there),
                        x -> x.vary(0, PARTS, there - 1), Check.IMPOSSIBLE);
                }
                if (parts < 6) {
                    Check.due("more than " + parts, Make.one(kind, 0, 9, parts).vary(0, PARTS, parts + 1), parts);
                }
            }
        }
        TriggerConditions x = Make.one(0, 0, 9, 2);
        Make.approve(x, 0, 1);
        x.vary(0, PARTS, 3);
        Check.due("the approved one stays", x.conditionOf(0, 5), 1);
        Check.due("the new one is open", x.apply(0, 6), 56);
    }

    private static void begunStage() {
        Check.sentence("Promise 10", "for 2 if the stage value has begun");
        for (int begun = 0; begun < 5; begun++) {
            for (int stage = 0; stage < 5; stage++) {
                int value = stage;
                int last = begun;
                Supplier<TriggerConditions> made = () -> {
                    TriggerConditions x = Make.one(1, 0, 9, 1);
                    Make.beginTo(x, last);
                    x.finish(0);
                    return x;
                };
                if (stage <= begun) {
                    Check.still("stage " + stage + " has begun", made, x -> x.vary(0, STAGE, value), Check.IMPOSSIBLE);
                } else {
                    Check.due("stage " + stage + " has not begun", made.get().vary(0, STAGE, stage), 0);
                }
            }
        }
        Check.due("its own, not begun", Make.one(1, 3, 9, 1).vary(0, STAGE, 3), 3);
    }

    private static void clockIsZero() {
        Check.sentence("Promise 10", "(the clock is 0 then, days that it was kept are gone).");
        TriggerConditions[] both = {Make.withinRunning(9, 1), Make.keptRunning(9)};
        for (TriggerConditions x : both) {
            x.pass(5);
            Check.due("ahead of it", x.conditionOf(0, 8), 5);
            x.vary(0, STAGE, 1);
            Check.due("then", x.conditionOf(0, 8), 0);
            Check.due("asleep", x.conditionOf(0, 4), 0);
            x.pass(3);
            Check.due("still 0", x.conditionOf(0, 8), 0);
            x.begin(1);
            x.finish(1);
            x.pass(9);
            Check.due("from 0 again", x.conditionOf(0, 8), 9);
        }
        TriggerConditions days = Make.withinRunning(9, 1);
        days.pass(5);
        days.vary(0, DAYS, 30);
        days.vary(0, PARTS, 2);
        Check.due("the clock stays with 0 and 1", days.conditionOf(0, 8), 5);
        TriggerConditions kept = Make.keptRunning(9);
        kept.pass(5);
        kept.vary(0, DAYS, 30);
        kept.vary(0, PARTS, 2);
        Check.due("the days kept stay with 0 and 1", kept.conditionOf(0, 8), 5);
    }
}
