import java.io.IOException;
import java.nio.charset.StandardCharsets;
import java.nio.file.Files;
import java.nio.file.Path;
import java.util.List;
import java.util.function.Supplier;
import java.util.function.ToLongFunction;

/** The boundary cases of the head "Changes and errors". */
final class ChangesBounds {
    private ChangesBounds() {
    }

    static void all() {
        changes();
        noChanges();
        fourStates();
        everythingButTheText();
        oldestOneIsDropped();
        orderOfErrors();
        errorsChangeNothing();
        noSuchNumber();
        constants();
        heads();
    }

    /** A call that is a change, with the history that there is and with a full one. */
    private static void change(String call, Supplier<TriggerConditions> made, ToLongFunction<TriggerConditions> done,
            long answer) {
        for (int more = 0; more <= 4; more += 4) {
            TriggerConditions x = made.get();
            int setting = x.count(20);
            for (int i = 0; i < more; i++) {
                // states that differ, and back to the setting that was
                x.set(0, i < more - 1 ? i : setting);
            }
            String ahead = Check.look(x);
            int states = x.count(6);
            Check.due(call, done.applyAsLong(x), answer);
            Check.due("states behind " + call, x.count(6), Math.min(states + 1, 4));
            Check.due("undo of " + call, x.undo(), Math.min(states, 3));
            Check.due("undone is " + call, Check.look(x), ahead);
        }
    }

    private static void changes() {
        Check.sentence("Changes and errors", "The changes are the calls of condition, begin, finish, apply, decide, lapse, cure, "
            + "serve, vary, pass, set and play that return no error.");
        Supplier<TriggerConditions> begun = Make::aheadInBreach;
        change("condition", Make::fresh, x -> x.condition(2, 4, 365, 6), 0);
        change("begin", () -> Make.one(0, 0, 0, 1), x -> x.begin(0), 1);
        change("begin without a breach", Make::fresh, x -> x.begin(0), 0);
        change("finish", begun, x -> x.finish(0), 0);
        change("apply", () -> Make.one(0, 0, 0, 1), x -> x.apply(0, 1), 56);
        change("decide", () -> {
            TriggerConditions x = Make.one(0, 0, 0, 2);
            x.apply(0, 3);
            return x;
        }, x -> x.decide(0, 1), 1);
        change("decide of none", () -> {
            TriggerConditions x = Make.one(0, 0, 0, 2);
            x.apply(0, 3);
            return x;
        }, x -> x.decide(0, 0), 2);
        change("lapse", () -> Make.keptRunning(3), x -> x.lapse(0), 0);
        change("cure", () -> Make.keptInBreach(3, 2), x -> x.cure(0), 0);
        change("serve", begun, x -> x.serve(0, 1), 0);
        change("vary of the days", () -> Make.one(0, 0, 5, 1), x -> x.vary(0, 0, 0), 5);
        change("vary of the parts", () -> Make.one(0, 0, 5, 1), x -> x.vary(0, 1, 6), 1);
        change("vary of the stage", () -> Make.one(0, 0, 5, 1), x -> x.vary(0, 2, 4), 0);
        change("vary to what it is", () -> Make.one(0, 0, 5, 1), x -> x.vary(0, 0, 5), 5);
        change("pass", begun, x -> x.pass(1), 1);
        change("set 0", Make::fresh, x -> x.set(0, 0), 56);
        change("set 1", Make::fresh, x -> x.set(1, 1), 100);
        change("set of one that was set", () -> {
            TriggerConditions x = new TriggerConditions();
            x.set(0, 5);
            x.set(1, 6);
            return x;
        }, x -> x.set(0, 7), 5);
        change("set to what it is", Make::fresh, x -> x.set(0, 56), 56);
        change("play without orders", Make::fresh, TriggerConditions::play, 0);
        change("play", () -> {
            TriggerConditions x = Make.one(0, 0, 5, 1);
            Check.write(x, "b0;p9;f0;");
            return x;
        }, TriggerConditions::play, 3);
    }

    private static void noChanges() {
        Check.sentence("Changes and errors", "that return no error.");
        TriggerConditions x = Make.aheadInBreach();
        x.type('p');
        x.clearText();
        x.type(31);
        x.fault(0);
        x.conditionOf(0, 4);
        x.stageOf(0, 0);
        x.which(3);
        x.when(0, 4);
        x.lawful(1);
        x.fine(0, 1);
        x.share();
        x.count(0);
        Check.due("other calls are no changes", x.count(6), 2);
        x.condition(0, 0, 0, 1);
        x.begin(0);
        x.finish(1);
        x.apply(0, 0);
        x.decide(0, 0);
        x.lapse(0);
        x.cure(0);
        x.serve(0, 0);
        x.vary(0, 1, 3);
        x.pass(0);
        x.set(0, -1);
        Check.write(x, "x");
        x.play();
        Check.due("calls that return an error are none", x.count(6), 2);
        Check.due("undo is none", x.undo(), 1);
        Check.due("undo is none", x.count(6), 1);
    }

    private static void fourStates() {
        Check.sentence("Changes and errors", "A history of at most 4 states is kept:");
        TriggerConditions x = new TriggerConditions();
        for (int changes = 0; changes <= 20; changes++) {
            Check.due("states behind " + changes, x.count(6), Math.min(changes, 4));
            x.set(0, changes);
        }
        for (int i = 3; i >= 0; i--) {
            Check.due("undo", x.undo(), i);
        }
        Check.due("no fifth one", x.undo(), Check.IMPOSSIBLE);
    }

    /** A permission with something of everything that a condition, a stage and a permission can have. */
    private static TriggerConditions full() {
        TriggerConditions x = new TriggerConditions();
        x.condition(0, 0, 9, 3);
        x.condition(1, 0, 0, 2);
        x.condition(2, 0, 9, 1);
        x.condition(0, 0, 0, 1);
        x.condition(1, 1, 30, 4);
        x.apply(0, 1);
        x.apply(4, 2);
        x.begin(0);
        x.finish(0);
        x.pass(2);
        x.serve(0, 1);
        x.serve(1, 40);
        x.lapse(2);
        x.set(0, 9);
        x.set(1, 7);
        x.pass(3);
        return x;
    }

    private static void everythingButTheText() {
        Check.sentence("Changes and errors", "each change records everything before it but the text,");
        TriggerConditions x = full();
        String first = Check.look(x);
        Check.write(x, "c1,1,5,6;d0,1;b1;f1;p365;");
        Check.due("play", x.play(), 5);
        x.set(0, 3);
        x.set(1, 2);
        Check.due("begin", x.begin(2), 0);
        Check.write(x, "p1");
        for (int i = 3; i >= 0; i--) {
            Check.due("undo", x.undo(), i);
        }
        Check.due("everything before it", Check.look(x), first);
        Check.due("but the text", x.count(7), 2);
        Check.due("but the text", x.fault(2), 2);
        TriggerConditions y = full();
        String[] ahead = new String[2];
        int[] days = {1, 100};
        for (int i = 0; i < 2; i++) {
            ahead[i] = Check.look(y);
            y.pass(days[i]);
        }
        for (int i = 1; i >= 0; i--) {
            y.undo();
            Check.due("everything before the pass " + i, Check.look(y), ahead[i]);
        }
    }

    private static void oldestOneIsDropped() {
        Check.sentence("Changes and errors", "and if there are 5 states then, the oldest one is dropped.");
        for (int changes = 1; changes <= 9; changes++) {
            TriggerConditions x = new TriggerConditions();
            for (int i = 1; i <= changes; i++) {
                x.pass(i);
            }
            int oldest = Math.max(changes - 4, 0);
            for (int i = changes - 1; i >= oldest; i--) {
                x.undo();
                Check.due("the day behind " + i + " of " + changes, x.count(1), i * (i + 1) / 2);
            }
            Check.due("the ones ahead of that are dropped", x.undo(), Check.IMPOSSIBLE);
            Check.due("the day stays", x.count(1), oldest * (oldest + 1) / 2);
        }
        TriggerConditions y = new TriggerConditions();
        for (int i = 0; i < 4; i++) {
            y.pass(1);
        }
        y.undo();
        y.pass(10);
        y.undo();
        y.undo();
        y.undo();
        Check.due("three and one more drop none", y.undo(), 0);
        Check.due("the first state", y.count(1), 0);
    }

    private static void orderOfErrors() {
        Check.sentence("Changes and errors", "If several errors apply to a call, INVALID_ARGUMENT is returned rather than "
            + "NOT_POSSIBLE, NOT_POSSIBLE rather than LIMIT_REACHED, and LIMIT_REACHED rather than NOT_FOUND.");
        TriggerConditions x = Make.ten(0, 0, 0, 1);
        Make.pass(x, 9999);
        x.begin(0);
        Check.due("condition: begun, ten, parts", x.condition(0, 0, 0, 0), Check.INVALID);
        Check.due("condition: begun, ten", x.condition(0, 0, 0, 1), Check.IMPOSSIBLE);
        Check.due("condition: ten, kind", x.condition(3, 1, 0, 1), Check.INVALID);
        Check.due("condition: ten", x.condition(0, 1, 0, 1), Check.LIMIT);
        Check.due("pass: the last day, days", x.pass(401), Check.INVALID);
        Check.due("pass: the last day", x.pass(400), Check.LIMIT);
        Check.due("vary: in breach, value", x.vary(0, 2, 5), Check.INVALID);
        Check.due("lawful: two ahead, stage", x.lawful(5), Check.INVALID);
        Check.due("conditionOf: no application, number", x.conditionOf(10, 7), Check.INVALID);
        Check.due("when: never, state", x.when(0, 5), Check.INVALID);
        Check.due("stageOf: not begun, stage", x.stageOf(5, 1), Check.INVALID);
        Check.due("fault: none, what", x.fault(3), Check.INVALID);
        TriggerConditions y = Make.one(2, 0, 9, 1);
        Check.due("apply: kind 2, parts", y.apply(0, 2), Check.INVALID);
        Check.due("decide: kind 2, parts", y.decide(0, 2), Check.INVALID);
        Check.due("serve: asleep, days", y.serve(0, 100), Check.INVALID);
        TriggerConditions z = Make.one(0, 1, 0, 1);
        Check.due("lawful: the one ahead is not begun, never", z.lawful(1), Check.IMPOSSIBLE);
        TriggerConditions u = Make.overdue(400);
        Check.due("fine: above, rate", u.fine(0, 1000000000000001L), Check.INVALID);
        for (int i = 0; i < 80; i++) {
            u.type('p');
        }
        Check.due("type: full, character", u.type(127), Check.INVALID);
        Check.due("type: full", u.type('p'), Check.LIMIT);
    }

    private static void errorsChangeNothing() {
        Check.sentence("Changes and errors", "A call that returns an error changes nothing.");
        Supplier<TriggerConditions> made = () -> {
            TriggerConditions x = Make.aheadInBreach();
            x.condition(2, 1, 9, 1);
            x.serve(0, 9);
            x.pass(3);
            x.apply(0, 2);
            Check.write(x, "c0,1,0,1;p5;a0,1;");
            return x;
        };
        Check.still("condition", made, x -> x.condition(0, 0, 0, 1), Check.IMPOSSIBLE);
        Check.still("begin", made, x -> x.begin(2), Check.IMPOSSIBLE);
        Check.still("finish", made, x -> x.finish(1), Check.IMPOSSIBLE);
        Check.still("apply", made, x -> x.apply(0, 1), Check.IMPOSSIBLE);
        Check.still("decide", made, x -> x.decide(0, 3), Check.IMPOSSIBLE);
        Check.still("lapse", made, x -> x.lapse(1), Check.IMPOSSIBLE);
        Check.still("cure", made, x -> x.cure(0), Check.IMPOSSIBLE);
        Check.still("serve", made, x -> x.serve(1, 5), Check.IMPOSSIBLE);
        Check.still("vary", made, x -> x.vary(0, 1, 6), Check.IMPOSSIBLE);
        Check.still("pass", made, x -> x.pass(401), Check.INVALID);
        Check.still("set", made, x -> x.set(1, 0), Check.INVALID);
        Check.still("type", made, x -> x.type(31), Check.INVALID);
        Check.still("fault", made, x -> x.fault(3), Check.INVALID);
        // two of its three orders are possible
        Check.still("play", made, TriggerConditions::play, Check.IMPOSSIBLE);
        fullHistoryStays();
        Check.still("type at the end", () -> {
            TriggerConditions x = new TriggerConditions();
            for (int i = 0; i < 16; i++) {
                Check.due("type", x.type('p') + x.type('4') + x.type('0') + x.type('0') + x.type(';'), 25 * i + 15);
            }
            return x;
        }, x -> x.type('p'), Check.LIMIT);
    }

    private static void fullHistoryStays() {
        List<ToLongFunction<TriggerConditions>> refused = List.of(x -> x.condition(0, 5, 0, 1), x -> x.begin(1),
            x -> x.finish(0), x -> x.apply(0, 1), x -> x.decide(0, 0), x -> x.lapse(0), x -> x.cure(0), x -> x.serve(0, 1),
            x -> x.vary(0, 1, 1), x -> x.pass(0), x -> x.set(2, 0), TriggerConditions::play);
        for (int call = 0; call < refused.size(); call++) {
            TriggerConditions x = Make.one(2, 0, 9, 1);
            for (int day = 1; day <= 7; day++) {
                x.pass(day);
            }
            Check.write(x, "p1;p0;");
            Check.due("call " + call + " returns an error", refused.get(call).applyAsLong(x) < 0 ? 1 : 0, 1);
            int[] days = {6, 10, 15, 21};
            for (int i = 3; i >= 0; i--) {
                Check.due("undo", x.undo(), i);
                Check.due("the day ahead of a pass, behind call " + call, x.count(1), days[i]);
            }
        }
    }

    private static void noSuchNumber() {
        Check.sentence("Changes and errors", "If there is no condition or stage with a certain number, this is INVALID_ARGUMENT.");
        int[][] far = {{-1, -1}, {2, 5}, {9, 6}, {10, 10}, {Integer.MIN_VALUE, Integer.MIN_VALUE},
            {Integer.MAX_VALUE, Integer.MAX_VALUE}};
        for (int[] f : far) {
            TriggerConditions x = Make.keptInBreach(9, 1);
            x.condition(0, 1, 0, 1);
            int c = f[0];
            int stage = f[1];
            long[] answers = {x.apply(c, 1), x.decide(c, 0), x.lapse(c), x.cure(c), x.serve(c, 1), x.vary(c, 0, 1),
                x.conditionOf(c, 0), x.when(c, 1), x.fine(c, 1), x.condition(0, stage, 0, 1), x.begin(stage), x.finish(stage),
                x.stageOf(stage, 0), x.lawful(stage), x.vary(1, 2, stage)};
            for (int i = 0; i < answers.length; i++) {
                Check.due("call " + i + " with " + c + " or " + stage, answers[i], Check.INVALID);
            }
        }
    }

    private static void constants() {
        Check.sentence("Changes and errors", "INVALID_ARGUMENT = -1000001: An argument is out of its range, "
            + "or there is no such condition or stage.");
        Check.due("the constant", TriggerConditions.INVALID_ARGUMENT, -1000001);
        Check.due("an argument", new TriggerConditions().pass(0), -1000001);
        Check.due("no such condition", new TriggerConditions().lapse(0), -1000001);
        Check.due("no such stage", new TriggerConditions().begin(5), -1000001);
        Check.sentence("Changes and errors", "NOT_POSSIBLE = -1000002: The call is not possible in the present state.");
        Check.due("the constant", TriggerConditions.NOT_POSSIBLE, -1000002);
        Check.due("undo of nothing", new TriggerConditions().undo(), -1000002);
        Check.sentence("Changes and errors", "LIMIT_REACHED = -1000003: A fixed limit has been reached.");
        Check.due("the constant", TriggerConditions.LIMIT_REACHED, -1000003);
        Check.due("the last day", Make.onDay(9999).pass(1), -1000003);
        Check.sentence("Changes and errors", "NOT_FOUND = -1000004: There is no such value.");
        Check.due("the constant", TriggerConditions.NOT_FOUND, -1000004);
        Check.due("no share", new TriggerConditions().share(), -1000004);
    }

    /** The comments that the interface has ahead of its calls. */
    private static void heads() {
        String[][] groups = {{"conditions and stages", "condition", "begin", "finish"},
            {"discharge", "apply", "decide", "lapse", "cure", "serve", "vary"}, {"time", "pass", "set"},
            {"what there is", "conditionOf", "stageOf", "which"},
            {"what would be, if nothing else is done", "when", "lawful", "fine", "share", "count", "undo"},
            {"texts", "type", "clearText", "fault", "play"}};
        String source = source();
        for (int g = 0; g < groups.length; g++) {
            StringBuilder calls = new StringBuilder();
            for (int i = 1; i < groups[g].length; i++) {
                calls.append(i > 1 ? ", " : "").append(groups[g][i]);
            }
            String says = "---- " + groups[g][0];
            Check.sentence("Changes and errors", "Ahead of the calls " + calls + " the interface says: " + says + ".");
            int from = source.indexOf("// " + says + "\n");
            int to = g + 1 < groups.length ? source.indexOf("// ---- " + groups[g + 1][0] + "\n") : source.length();
            Check.due("the interface says it", from >= 0 ? 1 : 0, 1);
            for (int i = 1; i < groups[g].length; i++) {
                int call = source.indexOf(" " + groups[g][i] + "(", Math.max(from, 0));
                Check.due("ahead of " + groups[g][i], from < call && call < to ? 1 : 0, 1);
            }
        }
    }

    private static String source() {
        try {
            return Files.readString(Path.of("src/main/java/TriggerConditions.java"), StandardCharsets.UTF_8);
        } catch (IOException e) {
            return "";
        }
    }
}
