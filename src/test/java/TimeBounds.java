/** The boundary cases of the promises 11 and 12. */
final class TimeBounds {
    private TimeBounds() {
    }

    static void all() {
        passLets();
        passDays();
        passAnswer();
        passInvalid();
        passLimit();
        setSets();
        setWhat();
        setValue();
        setAnswer();
        setInvalid();
    }

    private static void passLets() {
        Check.sentence("Promise 11", "Lets days pass.");
        TriggerConditions x = Make.withinRunning(365, 2);
        TriggerConditions y = Make.withinRunning(365, 2);
        x.set(0, 3);
        y.set(0, 3);
        x.apply(0, 1);
        y.apply(0, 1);
        x.pass(40);
        for (int i = 0; i < 40; i++) {
            y.pass(1);
        }
        Check.due("many days at once", Check.look(x), Check.look(y));
        Check.due("the clock", x.conditionOf(0, 8), 38);
        Check.due("one change", x.undo(), 3);
        Check.due("the clock ahead of it", x.conditionOf(0, 8), 0);
    }

    private static void passDays() {
        Check.sentence("Promise 11", "days: 1 to 400");
        for (int days : new int[] {1, 2, 399, 400}) {
            Check.due("pass(" + days + ")", new TriggerConditions().pass(days), days);
        }
        Check.due("below", new TriggerConditions().pass(0), Check.INVALID);
        Check.due("above", new TriggerConditions().pass(401), Check.INVALID);
    }

    private static void passAnswer() {
        Check.sentence("Promise 11", "Returns the day then;");
        TriggerConditions x = new TriggerConditions();
        int day = 0;
        for (int days = 1; days <= 100; days++) {
            day += days;
            Check.due("the day", x.pass(days), day);
        }
        Check.due("the day", x.count(1), 5050);
    }

    private static void passInvalid() {
        Check.sentence("Promise 11", "INVALID_ARGUMENT if days is out of range;");
        for (int far : Make.FAR) {
            Check.still("pass(" + far + ")", Make::withinInBreach, x -> x.pass(far), Check.INVALID);
        }
        for (int beside : new int[] {-1, 0, 401}) {
            Check.still("pass(" + beside + ")", Make::withinInBreach, x -> x.pass(beside), Check.INVALID);
            Check.still("on the last day, pass(" + beside + ")", () -> Make.onDay(9999), x -> x.pass(beside), Check.INVALID);
        }
    }

    private static void passLimit() {
        Check.sentence("Promise 11", "LIMIT_REACHED if the day would be above 9999.");
        Check.due("from 9599 to 9999", Make.onDay(9599).pass(400), 9999);
        Check.due("from 9998 to 9999", Make.onDay(9998).pass(1), 9999);
        Check.still("from 9600 to 10000", () -> Make.onDay(9600), x -> x.pass(400), Check.LIMIT);
        Check.still("from 9998 to 10000", () -> Make.onDay(9998), x -> x.pass(2), Check.LIMIT);
        Check.still("from 9999", () -> Make.onDay(9999), x -> x.pass(1), Check.LIMIT);
        Check.still("from 9999", () -> Make.onDay(9999), x -> x.pass(400), Check.LIMIT);
        Check.still("with a condition that runs", () -> {
            TriggerConditions x = Make.onDay(9990);
            x.condition(1, 0, 300, 1);
            x.begin(0);
            return x;
        }, x -> x.pass(10), Check.LIMIT);
    }

    private static void setSets() {
        Check.sentence("Promise 12", "Sets a setting.");
        TriggerConditions x = new TriggerConditions();
        x.set(0, 7);
        Check.due("setting 0", x.count(20), 7);
        Check.due("not setting 1", x.count(21), 100);
        x.set(1, 8);
        Check.due("setting 1", x.count(21), 8);
        Check.due("not setting 0", x.count(20), 7);
    }

    private static void setWhat() {
        Check.sentence("Promise 12", "what: 0 or 1");
        Check.due("0", new TriggerConditions().set(0, 50), 56);
        Check.due("1", new TriggerConditions().set(1, 50), 100);
        Check.due("below", new TriggerConditions().set(-1, 50), Check.INVALID);
        Check.due("above", new TriggerConditions().set(2, 50), Check.INVALID);
        Check.due("the number that count has for it", new TriggerConditions().set(20, 50), Check.INVALID);
    }

    private static void setValue() {
        Check.sentence("Promise 12", "value: a value in its range");
        for (int value : new int[] {0, 1, 98, 99}) {
            TriggerConditions x = new TriggerConditions();
            Check.due("set(0, " + value + ")", x.set(0, value), 56);
            Check.due("setting 0", x.count(20), value);
        }
        for (int value : new int[] {1, 2, 364, 365}) {
            TriggerConditions x = new TriggerConditions();
            Check.due("set(1, " + value + ")", x.set(1, value), 100);
            Check.due("setting 1", x.count(21), value);
        }
    }

    private static void setAnswer() {
        Check.sentence("Promise 12", "Returns what it was;");
        TriggerConditions x = new TriggerConditions();
        int[][] calls = {{0, 99, 56}, {0, 0, 99}, {1, 365, 100}, {0, 0, 0}, {0, 5, 0}, {1, 1, 365}, {1, 1, 1}, {0, 5, 5}};
        for (int[] call : calls) {
            Check.due("set(" + call[0] + ", " + call[1] + ")", x.set(call[0], call[1]), call[2]);
        }
    }

    private static void setInvalid() {
        Check.sentence("Promise 12", "INVALID_ARGUMENT if an argument is out of range.");
        int[][] beside = {{0, -1}, {0, 100}, {1, 0}, {1, -1}, {1, 366}, {2, 1}, {-1, 1}};
        for (int[] b : beside) {
            Check.still("set(" + b[0] + ", " + b[1] + ")", Make::fresh, x -> x.set(b[0], b[1]), Check.INVALID);
        }
        for (int far : Make.FAR) {
            Check.still("set(" + far + ", 1)", Make::fresh, x -> x.set(far, 1), Check.INVALID);
            Check.still("set(0, " + far + ")", Make::fresh, x -> x.set(0, far), Check.INVALID);
            Check.still("set(1, " + far + ")", Make::fresh, x -> x.set(1, far), Check.INVALID);
        }
    }
}
