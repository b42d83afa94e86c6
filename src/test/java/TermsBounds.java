/** The boundary cases of the heads "What it is", "Terms", "Stages", "Conditions", "Breaches" and "Settings". */
final class TermsBounds {
    private TermsBounds() {
    }

    static void all() {
        calls();
        bits();
        dayZero();
        fiveStages();
        notBegunThenBegunThenFinished();
        whenAStageCanBeBegun();
        tenConditions();
        whatAConditionHas();
        kindAhead();
        kindWithin();
        kindKept();
        partsOfKindKept();
        met();
        breachEndsWhenMet();
        states();
        firstAge();
        notice();
        endOfABreach();
        settings();
    }

    private static void calls() {
        Check.sentence("What it is", "An object is used for at most 512 calls after it has been made");
        TriggerConditions x = new TriggerConditions();
        for (int i = 1; i <= 512; i++) {
            Check.due("pass, call " + i, x.pass(1), i);
        }
        TriggerConditions y = new TriggerConditions();
        for (int i = 0; i < 511; i++) {
            Check.due("set, call " + i, y.set(0, i % 100), i == 0 ? 56 : (i - 1) % 100);
        }
        Check.due("undo, the call 512", y.undo(), 3);
        TriggerConditions z = new TriggerConditions();
        for (int i = 0; i < 511; i++) {
            Check.due("play, call " + i, z.play(), 0);
        }
        Check.due("count(6), the call 512", z.count(6), 4);
        TriggerConditions u = new TriggerConditions();
        for (int i = 1; i <= 512; i++) {
            Check.due("type, call " + i, u.type('p'), i <= 80 ? i : Check.LIMIT);
        }
        TriggerConditions v = new TriggerConditions();
        for (int i = 0; i < 512; i++) {
            Check.due("condition, call " + i, v.condition(0, 0, 0, 1), i < 10 ? i : Check.LIMIT);
        }
    }

    private static void bits() {
        Check.sentence("Terms", "Sets of conditions and of parts are told as bits: bit k is for number k.");
        for (int k = 0; k < 10; k++) {
            TriggerConditions x = Make.ten(0, 0, 0, 1);
            for (int c = 0; c < 10; c++) {
                if (c != k) {
                    Make.approve(x, c, 1);
                }
            }
            Check.due("the one that is not met, " + k, x.stageOf(0, 3), 1 << k);
            Check.due("the one that runs, " + k, x.which(1), 1 << k);
            Check.due("the others, " + k, x.which(2), 1023 - (1 << k));
            Check.due("the one in breach, " + k, x.begin(0), 1 << k);
        }
        for (int k = 0; k < 6; k++) {
            TriggerConditions x = Make.one(0, 0, 0, 6);
            x.apply(0, 1 << k);
            Check.due("applied for, part " + k, x.conditionOf(0, 6), 1 << k);
            x.decide(0, 1 << k);
            Check.due("approved, part " + k, x.conditionOf(0, 5), 1 << k);
            Check.due("part " + k + " again", x.apply(0, 1 << k), Check.IMPOSSIBLE);
            Check.due("all the others", x.apply(0, 63 - (1 << k)), 56);
        }
    }

    private static void dayZero() {
        Check.sentence("Terms", "Time is counted in days; it is day 0 at first.");
        TriggerConditions x = new TriggerConditions();
        Check.due("the day", x.count(1), 0);
        x.begin(0);
        x.finish(0);
        Check.due("begun on the day 0", x.stageOf(0, 1), 0);
        Check.due("finished on the day 0", x.stageOf(0, 2), 0);
        Check.due("the next one", x.pass(1), 1);
        Check.due("the day", x.count(1), 1);
    }

    private static void fiveStages() {
        Check.sentence("Stages", "There are 5 stages, numbered from 0.");
        TriggerConditions x = new TriggerConditions();
        for (int stage = 0; stage < 5; stage++) {
            Check.due("stageOf(" + stage + ")", x.stageOf(stage, 0), 0);
            Check.due("a condition of stage " + stage, x.condition(0, stage, 0, 1), stage);
            Check.due("its stage", x.conditionOf(stage, 1), stage);
        }
        for (int stage = 0; stage < 5; stage++) {
            Check.due("begin(" + stage + ")", x.begin(stage), 1 << stage);
            Check.due("finish(" + stage + ")", x.finish(stage), 0);
        }
        Check.due("none ahead of 0", x.stageOf(-1, 0), Check.INVALID);
        Check.due("no sixth one", x.stageOf(5, 0), Check.INVALID);
        Check.due("no sixth one is begun", x.begin(5), Check.INVALID);
        Check.due("no sixth one is finished", x.finish(5), Check.INVALID);
        Check.due("no sixth one has conditions", x.condition(0, 5, 0, 1), Check.INVALID);
    }

    private static void notBegunThenBegunThenFinished() {
        Check.sentence("Stages", "A stage is not begun at first, then begun, then finished.");
        TriggerConditions x = new TriggerConditions();
        for (int stage = 0; stage < 5; stage++) {
            Check.due("not begun at first", x.stageOf(stage, 0), 0);
            Check.due("not finished ahead of that", x.finish(stage), Check.IMPOSSIBLE);
            Check.due("begin", x.begin(stage), 0);
            Check.due("then begun", x.stageOf(stage, 0), 1);
            Check.due("not begun again", x.begin(stage), Check.IMPOSSIBLE);
            Check.due("finish", x.finish(stage), 0);
            Check.due("then finished", x.stageOf(stage, 0), 2);
            Check.due("not begun again", x.begin(stage), Check.IMPOSSIBLE);
            Check.due("not finished again", x.finish(stage), Check.IMPOSSIBLE);
            Check.due("finished for ever", x.stageOf(stage, 0), 2);
        }
    }

    private static void whenAStageCanBeBegun() {
        Check.sentence("Stages", "Stage 0 can be begun at any time, each other one when the one ahead of it has begun.");
        Check.due("stage 0 on the day 0", new TriggerConditions().begin(0), 0);
        Check.due("stage 0 on the last day", Make.onDay(9999).begin(0), 0);
        for (int stage = 1; stage < 5; stage++) {
            TriggerConditions x = new TriggerConditions();
            for (int begun = 0; begun < stage; begun++) {
                Check.due("stage " + stage + ", begun are " + begun, x.begin(stage), Check.IMPOSSIBLE);
                x.begin(begun);
            }
            Check.due("stage " + stage + ", the one ahead is begun", x.begin(stage), 0);
            TriggerConditions y = new TriggerConditions();
            Make.beginTo(y, stage - 1);
            y.finish(stage - 1);
            Check.due("stage " + stage + ", the one ahead is finished", y.begin(stage), 0);
        }
    }

    private static void tenConditions() {
        Check.sentence("Conditions", "There are at most 10 conditions, numbered from 0.");
        TriggerConditions x = new TriggerConditions();
        for (int i = 0; i < 10; i++) {
            Check.due("not there yet", x.conditionOf(i, 0), Check.INVALID);
            Check.due("the number", x.condition(i % 3, i % 5, 1, 1), i);
            Check.due("there", x.conditionOf(i, 0), i % 3);
        }
        Check.due("no eleventh", x.condition(0, 0, 0, 1), Check.LIMIT);
        Check.due("ten", x.count(0), 10);
        Check.due("no number 10", x.conditionOf(10, 0), Check.INVALID);
    }

    private static void whatAConditionHas() {
        Check.sentence("Conditions", "A condition has a kind, a stage, days (0 to 365) and parts (1 to 6, numbered from 0), "
            + "each of which is open, applied for, or approved.");
        for (int parts = 1; parts <= 6; parts++) {
            TriggerConditions x = Make.one(0, 4, parts % 2 * 365, parts);
            Check.due("kind", x.conditionOf(0, 0), 0);
            Check.due("stage", x.conditionOf(0, 1), 4);
            Check.due("days", x.conditionOf(0, 2), parts % 2 * 365);
            Check.due("parts", x.conditionOf(0, 3), parts);
            for (int part = 0; part < parts; part++) {
                Check.due("open", x.conditionOf(0, 6) & 1 << part | x.conditionOf(0, 5) & 1 << part, 0);
                x.apply(0, 1 << part);
                Check.due("applied for", x.conditionOf(0, 6), 1 << part);
                Check.due("those ahead are approved", x.conditionOf(0, 5), (1 << part) - 1);
                x.decide(0, 1 << part);
                Check.due("approved", x.conditionOf(0, 5), (2 << part) - 1);
                Check.due("applied for no more", x.conditionOf(0, 6), 0);
            }
            Check.due("no more parts", x.apply(0, 1 << parts), Check.INVALID);
            Check.due("met", x.conditionOf(0, 4), 2);
        }
        Check.due("days below", new TriggerConditions().condition(0, 0, -1, 1), Check.INVALID);
        Check.due("days above", new TriggerConditions().condition(0, 0, 366, 1), Check.INVALID);
        Check.due("parts below", new TriggerConditions().condition(0, 0, 0, 0), Check.INVALID);
        Check.due("parts above", new TriggerConditions().condition(0, 0, 0, 7), Check.INVALID);
    }

    private static void kindAhead() {
        Check.sentence("Conditions", "0, ahead: all of its parts have to be approved when its stage is begun "
            + "(its days do not matter). Otherwise it is in breach from then on.");
        for (int parts = 1; parts <= 6; parts++) {
            for (int days = 0; days <= 365; days += 365) {
                int all = (1 << parts) - 1;
                aheadBegun(parts, days, all, 0);
                aheadBegun(parts, days, 0, 1);
                for (int missing = 0; missing < parts; missing++) {
                    aheadBegun(parts, days, all - (1 << missing), 1);
                }
            }
        }
        TriggerConditions x = Make.one(0, 0, 0, 6);
        x.apply(0, 63);
        Check.due("applied for is not approved", x.begin(0), 1);
        TriggerConditions y = Make.one(0, 0, 0, 1);
        y.pass(400);
        Check.due("no days and no breach until its stage is begun", y.conditionOf(0, 4), 1);
    }

    private static void aheadBegun(int parts, int days, int approved, int inBreach) {
        TriggerConditions x = Make.one(0, 0, days, parts);
        Make.approve(x, 0, approved);
        String told = approved + " approved of " + parts + " parts, days " + days;
        Check.due("begin, " + told, x.begin(0), inBreach);
        Check.due("state, " + told, x.conditionOf(0, 4), inBreach == 1 ? 3 : 2);
        x.pass(3);
        Check.due("state later, " + told, x.conditionOf(0, 4), inBreach == 1 ? 3 : 2);
        Check.due("age later, " + told, x.conditionOf(0, 9), inBreach == 1 ? 3 : Check.MISSING);
    }

    private static void kindWithin() {
        Check.sentence("Conditions",
            "1, within: its clock is 0 until its stage is begun; when it is greater than its days, it is in breach.");
        for (int days : new int[] {0, 1, 2, 364, 365}) {
            TriggerConditions x = Make.one(1, 0, days, 1);
            x.pass(400);
            Check.due("until its stage is begun", x.conditionOf(0, 8), 0);
            x.begin(0);
            Check.due("on the day itself", x.conditionOf(0, 8), 0);
            Make.pass(x, days);
            Check.due("as great as its days", x.conditionOf(0, 8), days);
            Check.due("no breach yet of " + days, x.conditionOf(0, 4), 1);
            x.pass(1);
            Check.due("greater than its days", x.conditionOf(0, 8), days + 1);
            Check.due("in breach of " + days, x.conditionOf(0, 4), 3);
        }
    }

    private static void kindKept() {
        Check.sentence("Conditions", "2, kept: from the day on which its stage is finished it has to be kept for its days; "
            + "it can lapse, and is in breach then.");
        for (int days : new int[] {1, 2, 364, 365}) {
            TriggerConditions x = Make.one(2, 0, days, 1);
            x.begin(0);
            x.pass(400);
            Check.due("until its stage is finished", x.conditionOf(0, 8), 0);
            x.finish(0);
            Check.due("from that day", x.conditionOf(0, 8), 0);
            Make.pass(x, days - 1);
            Check.due("all but one of " + days, x.conditionOf(0, 4), 1);
            x.pass(1);
            Check.due("all of " + days, x.conditionOf(0, 4), 2);
            TriggerConditions y = Make.keptRunning(days);
            Make.pass(y, days - 1);
            Check.due("it can lapse on the last day of " + days, y.lapse(0), days - 1);
            Check.due("in breach then", y.conditionOf(0, 4), 3);
        }
    }

    private static void partsOfKindKept() {
        Check.sentence("Conditions", "Its parts do not matter.");
        for (int parts = 1; parts <= 6; parts++) {
            TriggerConditions x = Make.one(2, 0, 3, parts);
            Check.due("begin", x.begin(0), 0);
            x.finish(0);
            x.pass(2);
            Check.due("running", x.conditionOf(0, 4), 1);
            x.pass(1);
            Check.due("met without any", x.conditionOf(0, 4), 2);
            Check.due("none is approved", x.conditionOf(0, 5), 0);
        }
    }

    private static void met() {
        Check.sentence("Conditions", "A condition of the kinds 0 and 1 is met if all of its parts are approved; "
            + "one of the kind 2 is met when it has been kept for all of its days.");
        for (int kind = 0; kind <= 1; kind++) {
            for (int parts = 1; parts <= 6; parts++) {
                TriggerConditions x = Make.one(kind, 0, 9, parts);
                for (int part = parts - 1; part >= 0; part--) {
                    Check.due("not met, kind " + kind, x.which(2), 0);
                    x.apply(0, 1 << part);
                    Check.due("applied for is not met, kind " + kind, x.which(2), 0);
                    x.decide(0, 1 << part);
                }
                Check.due("met, kind " + kind + ", parts " + parts, x.which(2), 1);
            }
        }
        TriggerConditions y = Make.keptInBreach(2, 1);
        y.cure(0);
        Check.due("one of two days", y.which(2), 0);
        y.pass(1);
        Check.due("two of two days", y.which(2), 1);
    }

    private static void breachEndsWhenMet() {
        Check.sentence("Conditions", "When a condition of the kinds 0 or 1 that is in breach is met, its breach ends.");
        for (int kind = 0; kind <= 1; kind++) {
            TriggerConditions x = kind == 0 ? Make.aheadInBreach() : Make.withinInBreach();
            Make.approve(x, 0, 2);
            Check.due("one of two parts", x.conditionOf(0, 4), 3);
            Make.approve(x, 0, 1);
            Check.due("the last one", x.conditionOf(0, 4), 2);
            Check.due("no age", x.conditionOf(0, 9), Check.MISSING);
            TriggerConditions y = kind == 0 ? Make.aheadInBreach() : Make.withinInBreach();
            y.set(0, 1);
            y.apply(0, 1);
            y.pass(1);
            Check.due("one of two parts, by time", y.conditionOf(0, 4), 3);
            y.apply(0, 2);
            y.pass(1);
            Check.due("the last one, by time", y.conditionOf(0, 4), 2);
            y.pass(400);
            Check.due("no breach again", y.conditionOf(0, 4), 2);
            Check.due("one breach in all", y.count(4), 1);
        }
    }

    private static void states() {
        Check.sentence("Conditions", "The state of a condition is the first of these: 4 immune; 3 in breach; 2 met; "
            + "0 asleep (of the kind 1, if its stage is not begun; of the kind 2, if it is not finished); otherwise 1 running.");
        TriggerConditions x = Make.immune(Make.aheadInBreach());
        Make.approve(x, 0, 3);
        Check.due("immune ahead of met", x.conditionOf(0, 4), 4);
        TriggerConditions y = Make.one(1, 0, 5, 1);
        Make.approve(y, 0, 1);
        Check.due("met ahead of asleep", y.conditionOf(0, 4), 2);
        Check.due("in breach ahead of running", Make.aheadInBreach().conditionOf(0, 4), 3);
        Check.due("kind 0 is never asleep", Make.one(0, 4, 0, 1).conditionOf(0, 4), 1);
        Check.due("kind 1, not begun", Make.one(1, 0, 5, 1).conditionOf(0, 4), 0);
        Check.due("kind 1, begun", Make.withinRunning(5, 1).conditionOf(0, 4), 1);
        TriggerConditions z = Make.one(2, 0, 5, 1);
        Check.due("kind 2, not begun", z.conditionOf(0, 4), 0);
        z.begin(0);
        Check.due("kind 2, begun", z.conditionOf(0, 4), 0);
        z.finish(0);
        Check.due("kind 2, finished", z.conditionOf(0, 4), 1);
    }

    private static void firstAge() {
        Check.sentence("Breaches", "A breach has an age, 0 at first.");
        Check.due("kind 0, by begin", Make.aheadInBreach().conditionOf(0, 9), 0);
        Check.due("kind 1, by the clock", Make.withinInBreach().conditionOf(0, 9), 0);
        TriggerConditions x = Make.keptInBreach(9, 2);
        Check.due("kind 2, by lapse", x.conditionOf(0, 9), 0);
        x.pass(3);
        Check.due("later", x.conditionOf(0, 9), 3);
        x.cure(0);
        x.lapse(0);
        Check.due("a second breach", x.conditionOf(0, 9), 0);
    }

    private static void notice() {
        Check.sentence("Breaches", "A notice can be served on it, with days left.");
        for (int days : new int[] {1, 99}) {
            TriggerConditions[] breaches = {Make.aheadInBreach(), Make.withinInBreach(), Make.keptInBreach(9, 2)};
            for (TriggerConditions x : breaches) {
                Check.due("no notice at first", x.conditionOf(0, 10), Check.MISSING);
                Check.due("served", x.serve(0, days), 0);
                Check.due("days left", x.conditionOf(0, 10), days);
            }
        }
    }

    private static void endOfABreach() {
        Check.sentence("Breaches", "When a breach ends, its age and its notice are gone; the days overdue stay.");
        TriggerConditions x = Make.overdue(4);
        Make.approve(x, 0, 3);
        ended("by a decision", x, 4, 2);
        TriggerConditions y = Make.overdue(4);
        y.set(0, 0);
        y.apply(0, 3);
        y.pass(1);
        ended("by time", y, 4, 2);
        TriggerConditions z = Make.keptInBreach(9, 2);
        z.serve(0, 1);
        z.pass(6);
        z.cure(0);
        ended("by cure", z, 5, 1);
        z.lapse(0);
        Check.due("no old notice on a new breach", z.conditionOf(0, 10), Check.MISSING);
        Check.due("no old age of a new breach", z.conditionOf(0, 9), 0);
        Check.due("the days overdue stay", z.conditionOf(0, 11), 5);
        ended("by immunity", Make.immune(z), 5, 4);
    }

    private static void ended(String how, TriggerConditions x, int overdue, int state) {
        Check.due("state " + how, x.conditionOf(0, 4), state);
        Check.due("age " + how, x.conditionOf(0, 9), Check.MISSING);
        Check.due("notice " + how, x.conditionOf(0, 10), Check.MISSING);
        Check.due("overdue " + how, x.conditionOf(0, 11), overdue);
    }

    private static void settings() {
        Check.sentence("Settings",
            "The settings are (in parentheses: range; first value): 0 (0 to 99; 56), 1 (1 to 365; 100).");
        TriggerConditions x = new TriggerConditions();
        Check.due("setting 0 at first", x.count(20), 56);
        Check.due("setting 1 at first", x.count(21), 100);
        int[][] edges = {{0, 0, 99}, {1, 1, 365}};
        for (int[] edge : edges) {
            Check.due("below", x.set(edge[0], edge[1] - 1), Check.INVALID);
            Check.due("above", x.set(edge[0], edge[2] + 1), Check.INVALID);
            Check.due("least, was", x.set(edge[0], edge[1]), edge[0] == 0 ? 56 : 100);
            Check.due("most, was", x.set(edge[0], edge[2]), edge[1]);
            Check.due("now", x.count(20 + edge[0]), edge[2]);
        }
        Check.due("no setting 2", x.set(2, 1), Check.INVALID);
        Check.due("no setting -1", x.set(-1, 1), Check.INVALID);
    }
}
