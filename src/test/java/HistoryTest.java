/** Promises 20 and 21. */
public final class HistoryTest {
    public static void main(String[] args) {
        count();
        countErrors();
        undo();
        everyChangeIsUndone();
        errorsAreNoChanges();
        textIsNotUndone();
        conditionsAddedAgain();
        Check.end();
    }

    private static void count() {
        Check.part("promise 20: count");
        TriggerConditions x = new TriggerConditions();
        x.condition(0, 0, 0, 3);
        x.condition(2, 0, 5, 4);
        x.condition(1, 0, 0, 2);
        Check.due("conditions", x.count(0), 3);
        Check.due("parts", x.count(2), 9);
        Check.due("states", x.count(6), 3);
        x.apply(0, 5);
        x.decide(0, 4);
        Check.due("approved", x.count(3), 1);
        Check.due("states", x.count(6), 4);
        x.apply(0, 3);
        x.apply(2, 1);
        x.set(0, 2);
        x.pass(2);
        Check.due("the day", x.count(1), 2);
        Check.due("approved", x.count(3), 4);
        Check.due("without a decision", x.count(5), 3);
        x.begin(0);
        Check.due("breaches", x.count(4), 0);
        x.finish(0);
        x.pass(1);
        Check.due("breaches", x.count(4), 1);
        x.lapse(1);
        x.cure(1);
        x.lapse(1);
        Check.due("breaches", x.count(4), 3);
        x.cure(1);
        Check.due("ended ones too", x.count(4), 3);
        x.vary(1, 1, 6);
        Check.due("varied parts", x.count(2), 11);
        Check.due("setting 0", x.count(20), 2);
        Check.due("setting 1", x.count(21), 100);
        Check.write(x, "p1;");
        Check.due("the text", x.count(7), 3);
        Check.due("states", x.count(6), 4);
    }

    private static void countErrors() {
        Check.part("promise 20: its errors");
        TriggerConditions x = new TriggerConditions();
        int[] bad = {-1, 8, 9, 19, 22, 100, Integer.MIN_VALUE, Integer.MAX_VALUE};
        for (int b : bad) {
            Check.due("count(" + b + ")", x.count(b), Check.INVALID);
        }
    }

    private static void undo() {
        Check.part("promise 21: undo");
        TriggerConditions x = new TriggerConditions();
        Check.due("empty", x.undo(), Check.IMPOSSIBLE);
        x.pass(1);
        Check.due("one", x.undo(), 0);
        Check.due("back", x.count(1), 0);
        Check.due("empty", x.undo(), Check.IMPOSSIBLE);
        for (int i = 1; i <= 6; i++) {
            x.pass(i);
            Check.due("states", x.count(6), Math.min(i, 4));
        }
        int[] days = {15, 10, 6, 3};
        for (int i = 0; i < 4; i++) {
            Check.due("left", x.undo(), 3 - i);
            Check.due("the day", x.count(1), days[i]);
            Check.due("states", x.count(6), 3 - i);
        }
        Check.due("the oldest ones are dropped", x.undo(), Check.IMPOSSIBLE);
        Check.due("nothing changed", x.count(1), 3);
        x.pass(10);
        x.pass(10);
        x.undo();
        x.pass(5);
        Check.due("on from there", x.count(1), 18);
        x.undo();
        Check.due("back to there", x.count(1), 13);
        x.undo();
        Check.due("and to the one ahead", x.count(1), 3);
    }

    private static int change(TriggerConditions x, int number) {
        switch (number) {
            case 0: return x.condition(2, 0, 9, 2);
            case 1: return x.begin(0);
            case 2: return x.finish(0);
            case 3: return x.pass(2);
            case 4: return x.lapse(0);
            case 5: return x.serve(0, 1);
            case 6: return x.pass(4);
            case 7: return x.cure(0);
            case 8: return x.condition(0, 1, 0, 3);
            case 9: return x.apply(1, 7);
            case 10: return x.decide(1, 2);
            case 11: return x.vary(1, 1, 5);
            case 12: return x.set(0, 1);
            case 13: return x.set(1, 1);
            case 14: return x.apply(1, 16);
            case 15: return x.pass(1);
            case 16: return x.vary(0, 0, 30);
            case 17: return x.vary(0, 2, 4);
            case 18: return x.begin(1);
            case 19: return x.pass(1);
            case 20: return x.play();
            default: return x.condition(1, 3, 4, 5);
        }
    }

    private static void everyChangeIsUndone() {
        Check.part("promise 21: everything but the text comes back");
        for (int number = 0; number <= 21; number++) {
            TriggerConditions x = new TriggerConditions();
            Check.write(x, "c1,2,3,4;p3;b2;f1;");
            for (int i = 0; i < number; i++) {
                change(x, i);
            }
            String ahead = Check.look(x);
            int states = x.count(6);
            int answer = change(x, number);
            Check.due("change " + number + " is done", answer >= 0 ? 1 : answer, 1);
            Check.due("undo of change " + number, x.undo(), Math.min(states, 3));
            Check.due("undo of change " + number, Check.look(x), ahead);
        }
    }

    private static void errorsAreNoChanges() {
        Check.part("a call that returns an error changes nothing");
        TriggerConditions x = new TriggerConditions();
        x.condition(0, 0, 0, 2);
        x.begin(0);
        Check.write(x, "p1;p401;");
        String ahead = Check.look(x);
        Check.due("condition", x.condition(0, 0, 0, 1), Check.IMPOSSIBLE);
        Check.due("begin", x.begin(0), Check.IMPOSSIBLE);
        Check.due("finish", x.finish(1), Check.IMPOSSIBLE);
        Check.due("apply", x.apply(0, 4), Check.INVALID);
        Check.due("decide", x.decide(0, 1), Check.IMPOSSIBLE);
        Check.due("lapse", x.lapse(0), Check.IMPOSSIBLE);
        Check.due("cure", x.cure(0), Check.IMPOSSIBLE);
        Check.due("serve", x.serve(0, 0), Check.INVALID);
        Check.due("vary", x.vary(0, 1, 3), Check.IMPOSSIBLE);
        Check.due("pass", x.pass(401), Check.INVALID);
        Check.due("set", x.set(0, 100), Check.INVALID);
        Check.due("play", x.play(), Check.IMPOSSIBLE);
        Check.due("states", x.count(6), 2);
        Check.due("all", Check.look(x), ahead);
    }

    private static void textIsNotUndone() {
        Check.part("promise 21: the text stays");
        TriggerConditions x = new TriggerConditions();
        x.pass(1);
        Check.write(x, "p7;");
        Check.due("typing is no change", x.count(6), 1);
        x.undo();
        Check.due("the text", x.count(7), 3);
        x.pass(1);
        x.clearText();
        Check.due("clearing is no change", x.count(6), 1);
        x.undo();
        Check.due("no text", x.count(7), 0);
    }

    /** What a condition that was undone had must not come back in the one that gets its number. */
    private static void conditionsAddedAgain() {
        Check.part("promise 21: nothing is left of a condition that is undone");
        String[] lives = {"a1,1;p5;", "a1,3;p57;", "a1,3;d1,1;", "a1,3;d1,3;", "b0;p1;p3;", "b0;p200;", "a1,2;b0;p7;d1,0;",
            "b0;f0;p4;", "b0;f0;p99;"};
        for (int kind = 0; kind <= 2; kind++) {
            for (String life : lives) {
                // nothing can be applied for with the kind 2
                if (kind < 2 || life.charAt(0) != 'a') {
                    addedByTheCall(kind, life);
                    addedByTheText(kind, life);
                }
            }
        }
        addedBehindANotice();
    }

    private static TriggerConditions lived(int kind, String life) {
        TriggerConditions x = new TriggerConditions();
        x.condition(0, 4, 0, 1);
        Check.write(x, "c" + kind + ",0,5,2;" + life);
        Check.due("play", x.play() > 0 ? 1 : 0, 1);
        Check.due("undo", x.undo(), 1);
        Check.due("none is left of " + kind + life, x.count(0), 1);
        Check.due("parts", x.count(2), 1);
        Check.due("approved", x.count(3), 0);
        Check.due("none is left", x.stageOf(0, 3) + x.which(0) + x.which(2) + x.which(3) + x.which(4), 0);
        Check.due("no breach", x.begin(0), 0);
        x.undo();
        return x;
    }

    private static void sameAsFresh(TriggerConditions x) {
        TriggerConditions fresh = new TriggerConditions();
        fresh.condition(0, 4, 0, 1);
        fresh.condition(0, 0, 0, 1);
        Check.due("added again", Check.look(x), Check.look(fresh));
        Check.due("begun", x.begin(0), fresh.begin(0));
        Check.due("begun", Check.look(x), Check.look(fresh));
    }

    private static void addedByTheCall(int kind, String life) {
        TriggerConditions x = lived(kind, life);
        Check.due("the number", x.condition(0, 0, 0, 1), 1);
        sameAsFresh(x);
    }

    private static void addedByTheText(int kind, String life) {
        TriggerConditions x = lived(kind, life);
        Check.write(x, "c0,0,0,1;");
        Check.due("play", x.play(), 1);
        sameAsFresh(x);
    }

    private static void addedBehindANotice() {
        TriggerConditions x = new TriggerConditions();
        x.condition(0, 4, 0, 1);
        Check.write(x, "c0,0,0,2;b0;");
        x.play();
        x.serve(1, 1);
        x.pass(3);
        // forecasts and faults must not keep anything of it either
        Check.due("when", x.when(1, 4), Check.MISSING);
        Check.due("fault", x.fault(1), 2);
        for (int i = 0; i < 3; i++) {
            x.undo();
        }
        Check.write(x, "c0,0,0,1;");
        Check.due("play", x.play(), 1);
        sameAsFresh(x);
    }
}
