/** The boundary cases of the promises 20 and 21. */
final class HistoryBounds {
    private HistoryBounds() {
    }

    static void all() {
        countWhat();
        countConditions();
        countParts();
        countBreaches();
        countPresumed();
        countAnswer();
        countInvalid();
        undoRestores();
        undoRemoves();
        undoAnswer();
        undoImpossible();
    }

    private static void countWhat() {
        Check.sentence("Promise 20", "what: 0: conditions; 1: the day;");
        for (int c = 0; c <= 10; c++) {
            TriggerConditions x = new TriggerConditions();
            for (int i = 0; i < c; i++) {
                x.condition(i % 3, i % 5, 1, 1);
            }
            Check.due("conditions", x.count(0), c);
            Check.due("the day", x.count(1), 0);
        }
        for (int day : new int[] {0, 1, 400, 401, 9998, 9999}) {
            Check.due("the day", Make.onDay(day).count(1), day);
        }
        Check.sentence("Promise 20", "6: states in the history; 7: the length of the text; 20 and 21: the settings 0 and 1");
        TriggerConditions y = new TriggerConditions();
        for (int i = 0; i <= 6; i++) {
            Check.due("states", y.count(6), Math.min(i, 4));
            y.pass(1);
        }
        for (int length = 0; length <= 80; length++) {
            Check.due("the length", y.count(7), length);
            y.type(126);
        }
        Check.due("not above 80", y.count(7), 80);
        y.clearText();
        Check.due("empty", y.count(7), 0);
        y.set(0, 0);
        y.set(1, 365);
        Check.due("setting 0", y.count(20), 0);
        Check.due("setting 1", y.count(21), 365);
    }

    private static void countConditions() {
        Check.sentence("Promise 20", "2: parts of all conditions;");
        Check.due("none", new TriggerConditions().count(2), 0);
        TriggerConditions x = new TriggerConditions();
        for (int i = 0; i < 10; i++) {
            x.condition(i % 3, 4, 1, 6);
            Check.due("of the kind 2 too", x.count(2), 6 * i + 6);
        }
        TriggerConditions y = Make.ten(2, 0, 1, 1);
        y.vary(9, 1, 5);
        Check.due("varied", y.count(2), 14);
    }

    private static void countParts() {
        Check.sentence("Promise 20", "3: parts that are approved;");
        TriggerConditions x = Make.ten(0, 0, 0, 6);
        Check.due("none", x.count(3), 0);
        x.apply(0, 63);
        Check.due("applied for", x.count(3), 0);
        x.decide(0, 33);
        Check.due("decided", x.count(3), 2);
        x.set(0, 0);
        x.apply(0, 30);
        x.pass(1);
        Check.due("by time too", x.count(3), 6);
        for (int c = 1; c < 10; c++) {
            Make.approve(x, c, 63);
        }
        Check.due("all", x.count(3), 60);
        TriggerConditions y = Make.immune(Make.aheadInBreach());
        Make.approve(y, 0, 2);
        Check.due("of an immune one", y.count(3), 1);
    }

    private static void countBreaches() {
        Check.sentence("Promise 20", "4: breaches so far;");
        TriggerConditions x = Make.ten(0, 0, 0, 1);
        Check.due("none", x.count(4), 0);
        x.begin(0);
        Check.due("by begin", x.count(4), 10);
        Make.approve(x, 3, 1);
        Check.due("those that ended too", x.count(4), 10);
        x.pass(100);
        Check.due("those that are immune too", x.count(4), 10);
        Check.due("by the clock", Make.withinInBreach().count(4), 1);
        TriggerConditions y = Make.keptInBreach(9, 1);
        Check.due("by lapse", y.count(4), 1);
        y.cure(0);
        y.lapse(0);
        Check.due("the second one of a condition", y.count(4), 2);
        y.undo();
        Check.due("undone", y.count(4), 1);
    }

    private static void countPresumed() {
        Check.sentence("Promise 20", "5: parts that counted as approved without a decision, so far;");
        TriggerConditions x = Make.ten(1, 0, 365, 6);
        for (int c = 0; c < 10; c++) {
            x.apply(c, 63);
        }
        x.decide(0, 63);
        x.pass(55);
        Check.due("not yet", x.count(5), 0);
        x.decide(1, 0);
        x.pass(1);
        Check.due("without a decision", x.count(5), 48);
        x.apply(1, 5);
        x.pass(56);
        Check.due("parts, not applications", x.count(5), 50);
        x.undo();
        Check.due("undone", x.count(5), 48);
    }

    private static void countAnswer() {
        Check.sentence("Promise 20", "Returns a number.");
        int[] asked = {0, 1, 2, 3, 4, 5, 6, 7, 20, 21};
        int[] due = {1, 3, 2, 1, 1, 1, 4, 2, 1, 9};
        for (int i = 0; i < asked.length; i++) {
            int what = asked[i];
            Check.still("count(" + what + ")", () -> {
                TriggerConditions x = Make.aheadInBreach();
                x.set(0, 1);
                x.set(1, 9);
                x.apply(0, 1);
                x.pass(3);
                Check.write(x, "p1");
                return x;
            }, x -> x.count(what), due[i]);
        }
        Check.sentence("Promise 20", "Returns the number;");
        Check.due("the most parts", Make.ten(0, 0, 0, 6).count(2), 60);
        Check.due("the last day", Make.onDay(9999).count(1), 9999);
    }

    private static void countInvalid() {
        Check.sentence("Promise 20", "INVALID_ARGUMENT if what is out of range.");
        for (int what = 8; what < 20; what++) {
            Check.due("count(" + what + ")", new TriggerConditions().count(what), Check.INVALID);
        }
        for (int what : new int[] {-1, 8, 19, 22}) {
            Check.still("count(" + what + ")", () -> Make.one(0, 0, 0, 1), x -> x.count(what), Check.INVALID);
        }
        for (int far : Make.FAR) {
            Check.still("count(" + far + ")", () -> Make.one(0, 0, 0, 1), x -> x.count(far), Check.INVALID);
        }
    }

    private static void undoRestores() {
        Check.sentence("Promise 21", "Restores the latest state of the history,");
        TriggerConditions x = new TriggerConditions();
        int[] days = {0, 1, 3, 6, 10};
        for (int i = 1; i <= 4; i++) {
            x.pass(i);
        }
        for (int i = 3; i >= 0; i--) {
            x.undo();
            Check.due("the state ahead of the change " + (i + 1), x.count(1), days[i]);
        }
        TriggerConditions y = Make.overdue(4);
        y.apply(0, 3);
        String ahead = Check.look(y);
        y.decide(0, 3);
        y.undo();
        Check.due("an application, a breach and a notice", Check.look(y), ahead);
        TriggerConditions z = Make.one(1, 4, 0, 1);
        z.undo();
        Check.due("the state of a new object", Check.look(z), Check.look(new TriggerConditions()));
        for (String life : new String[] {"c1,0,2,1;b0;p9;", "c1,0,2,1;b0;p200;", "c2,0,9,2;b0;f0;p4;", "c0,0,0,3;a0,3;d0,3;"}) {
            TriggerConditions u = new TriggerConditions();
            Check.write(u, life);
            u.play();
            u.undo();
            u.condition(0, 1, 0, 1);
            Check.due("nothing is left of " + life, Check.look(u), Check.look(Make.one(0, 1, 0, 1)));
        }
        TriggerConditions late = new TriggerConditions();
        Check.write(late, "c0,0,0,1;b0;");
        late.play();
        late.serve(0, 1);
        late.pass(3);
        Check.due("asking must not keep anything of it either", late.fault(1), 2);
        for (int i = 0; i < 3; i++) {
            late.undo();
        }
        Check.write(late, "c0,1,0,1;");
        late.play();
        Check.due("nothing is left of a notice", Check.look(late), Check.look(Make.one(0, 1, 0, 1)));
        TriggerConditions v = Make.one(2, 0, 9, 1);
        v.begin(0);
        v.finish(0);
        v.lapse(0);
        Check.write(v, "c0,1,0,1;b1;p1;");
        v.play();
        for (int i = 0; i < 4; i++) {
            v.undo();
        }
        Check.due("back to the first condition", Check.look(v), Check.look(Make.one(2, 0, 9, 1)));
    }

    private static void undoRemoves() {
        Check.sentence("Promise 21", "which is removed from it.");
        TriggerConditions x = new TriggerConditions();
        x.pass(1);
        x.pass(2);
        x.undo();
        Check.due("one is left", x.count(6), 1);
        Check.due("a state is not undone twice", x.undo(), 0);
        Check.due("the day", x.count(1), 0);
        x.pass(5);
        Check.due("a new one", x.count(6), 1);
        x.undo();
        Check.due("not the old one", x.count(1), 0);
        Check.due("undo is no change", x.undo(), Check.IMPOSSIBLE);
    }

    private static void undoAnswer() {
        Check.sentence("Promise 21", "Returns the number of states that are left in the history;");
        for (int changes = 1; changes <= 6; changes++) {
            TriggerConditions x = new TriggerConditions();
            Make.pass(x, 0);
            for (int i = 0; i < changes; i++) {
                x.pass(1);
            }
            for (int left = Math.min(changes, 4) - 1; left >= 0; left--) {
                Check.due("left of " + changes, x.undo(), left);
                Check.due("count(6)", x.count(6), left);
            }
        }
    }

    private static void undoImpossible() {
        Check.sentence("Promise 21", "NOT_POSSIBLE if it is empty.");
        Check.due("new", new TriggerConditions().undo(), Check.IMPOSSIBLE);
        for (int changes = 1; changes <= 5; changes++) {
            int any = changes;
            Check.still("emptied, " + changes, () -> {
                TriggerConditions x = new TriggerConditions();
                for (int i = 0; i < any; i++) {
                    x.pass(1);
                }
                for (int i = 0; i < Math.min(any, 4); i++) {
                    x.undo();
                }
                Check.write(x, "p1;");
                return x;
            }, TriggerConditions::undo, Check.IMPOSSIBLE);
        }
        TriggerConditions refused = new TriggerConditions();
        refused.pass(0);
        refused.begin(1);
        refused.type('p');
        Check.due("behind calls that are no changes", refused.undo(), Check.IMPOSSIBLE);
    }
}
