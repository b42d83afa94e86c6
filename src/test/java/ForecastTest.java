/** Promises 16 to 19. */
public final class ForecastTest {
    private static final long MOST = 1000000000000000L;

    public static void main(String[] args) {
        when();
        whenIsFarAway();
        whenErrors();
        lawful();
        lawfulErrors();
        fine();
        fineOfManyDays();
        share();
        Check.end();
    }

    private static void when() {
        Check.part("promise 16: when");
        TriggerConditions x = new TriggerConditions();
        x.condition(0, 0, 0, 2);
        x.condition(1, 0, 3, 1);
        x.condition(2, 0, 4, 1);
        Check.due("now", x.when(0, 1), 0);
        Check.due("asleep now", x.when(1, 0), 0);
        Check.due("nobody approves", x.when(0, 2), Check.MISSING);
        Check.due("nobody begins", x.when(1, 3), Check.MISSING);
        Check.due("nobody finishes", x.when(2, 2), Check.MISSING);
        x.apply(0, 3);
        Check.due("approved by time", x.when(0, 2), 56);
        x.pass(6);
        Check.due("later", x.when(0, 2), 50);
        x.set(0, 0);
        Check.due("on the next day at least", x.when(0, 2), 1);
        x.set(0, 56);
        x.begin(0);
        Check.due("in breach now", x.when(0, 3), 0);
        Check.due("ends ahead of immunity", x.when(0, 4), Check.MISSING);
        Check.due("met", x.when(0, 2), 50);
        Check.due("running no more", x.when(0, 1), Check.MISSING);
        Check.due("its clock runs out", x.when(1, 3), 4);
        Check.due("immune", x.when(1, 4), 104);
        x.set(1, 30);
        Check.due("immune earlier", x.when(0, 4), 30);
        Check.due("met never, then", x.when(0, 2), Check.MISSING);
        x.serve(0, 1);
        Check.due("not immune with a notice", x.when(0, 4), Check.MISSING);
        x.finish(0);
        Check.due("kept", x.when(2, 2), 4);
        x.pass(1);
        x.lapse(2);
        Check.due("not kept in breach", x.when(2, 2), Check.MISSING);
        Check.due("immune", x.when(2, 4), 30);
        Check.due("asleep no more", x.when(2, 0), Check.MISSING);
        String ahead = Check.look(x);
        x.when(1, 4);
        Check.due("asking changes nothing", Check.look(x), ahead);
    }

    private static void whenIsFarAway() {
        Check.part("promise 16: 400 days, and days above 9999");
        TriggerConditions x = new TriggerConditions();
        x.condition(2, 0, 365, 1);
        x.condition(1, 0, 35, 1);
        x.condition(1, 0, 36, 1);
        x.set(1, 364);
        x.begin(0);
        x.finish(0);
        Check.due("365 days", x.when(0, 2), 365);
        Check.due("400 days", x.when(1, 4), 400);
        Check.due("401 days", x.when(2, 4), Check.MISSING);
        TriggerConditions y = new TriggerConditions();
        y.condition(1, 0, 10, 1);
        for (int i = 0; i < 24; i++) {
            y.pass(400);
        }
        y.pass(399);
        y.begin(0);
        Check.due("above 9999", y.when(0, 4), 111);
    }

    private static void whenErrors() {
        Check.part("promise 16: its errors");
        TriggerConditions x = new TriggerConditions();
        Check.due("no condition", x.when(0, 0), Check.INVALID);
        x.condition(0, 0, 0, 1);
        int[][] bad = {{-1, 0}, {1, 0}, {10, 0}, {0, -1}, {0, 5},
            {Integer.MIN_VALUE, 0}, {Integer.MAX_VALUE, 0}, {0, Integer.MIN_VALUE}, {0, Integer.MAX_VALUE}};
        for (int[] b : bad) {
            Check.due("when(" + b[0] + ", " + b[1] + ")", x.when(b[0], b[1]), Check.INVALID);
        }
    }

    private static void lawful() {
        Check.part("promise 17: lawful");
        TriggerConditions x = new TriggerConditions();
        x.condition(0, 0, 0, 2);
        x.condition(0, 0, 0, 1);
        x.condition(1, 0, 0, 1);
        x.condition(2, 0, 1, 1);
        x.condition(0, 1, 0, 1);
        Check.due("nothing applied for", x.lawful(0), Check.MISSING);
        x.apply(0, 3);
        x.pass(10);
        Check.due("one applied for", x.lawful(0), Check.MISSING);
        x.apply(1, 1);
        Check.due("the later one", x.lawful(0), 56);
        x.pass(5);
        Check.due("the later one", x.lawful(0), 51);
        x.decide(1, 1);
        Check.due("the one that is left", x.lawful(0), 41);
        x.set(0, 3);
        Check.due("on the next day", x.lawful(0), 1);
        x.decide(0, 1);
        Check.due("a part is open", x.lawful(0), Check.MISSING);
        x.apply(0, 2);
        x.set(0, 99);
        Check.due("99 days", x.lawful(0), 99);
        x.decide(0, 2);
        Check.due("now, whatever the other kinds and stages are", x.lawful(0), 0);
        x.begin(0);
        Check.due("the next", x.lawful(1), Check.MISSING);
        x.apply(4, 1);
        x.set(0, 0);
        Check.due("the next", x.lawful(1), 1);
        String ahead = Check.look(x);
        x.lawful(1);
        Check.due("asking changes nothing", Check.look(x), ahead);
        x.begin(1);
        Check.due("without conditions", x.lawful(2), 0);
        x.begin(2);
        x.begin(3);
        Check.due("the last", x.lawful(4), 0);
        TriggerConditions y = new TriggerConditions();
        y.condition(0, 0, 0, 1);
        for (int i = 0; i < 24; i++) {
            y.pass(400);
        }
        y.pass(399);
        y.apply(0, 1);
        Check.due("above 9999", y.lawful(0), 56);
    }

    private static void lawfulErrors() {
        Check.part("promise 17: its errors");
        TriggerConditions x = new TriggerConditions();
        x.condition(0, 1, 0, 1);
        int[] bad = {-1, 5, Integer.MIN_VALUE, Integer.MAX_VALUE};
        for (int b : bad) {
            Check.due("lawful(" + b + ")", x.lawful(b), Check.INVALID);
        }
        Check.due("the one ahead is not begun, and it would be a breach", x.lawful(1), Check.IMPOSSIBLE);
        x.begin(0);
        Check.due("begun", x.lawful(0), Check.IMPOSSIBLE);
        Check.due("two ahead", x.lawful(2), Check.IMPOSSIBLE);
        x.finish(0);
        Check.due("finished", x.lawful(0), Check.IMPOSSIBLE);
    }

    private static void fine() {
        Check.part("promise 18: fine");
        TriggerConditions x = new TriggerConditions();
        Check.due("no condition", x.fine(0, 1), Check.INVALID);
        x.condition(0, 0, 0, 1);
        int[] noConditions = {-1, 1, 10, Integer.MIN_VALUE, Integer.MAX_VALUE};
        for (int c : noConditions) {
            Check.due("no such condition", x.fine(c, 1), Check.INVALID);
        }
        long[] bad = {0, -1, MOST + 1, Long.MIN_VALUE, Long.MAX_VALUE, 4294967296L * 4294967295L};
        for (long b : bad) {
            Check.due("fine(0, " + b + ")", x.fine(0, b), Check.INVALID);
        }
        Check.due("not overdue", x.fine(0, MOST), 0);
        x.begin(0);
        x.serve(0, 1);
        x.pass(1);
        Check.due("not overdue yet", x.fine(0, 5), 0);
        x.pass(3);
        Check.due("three days", x.fine(0, 5), 45);
        Check.due("least", x.fine(0, 1), 9);
        Check.due("most", x.fine(0, MOST), 9 * MOST);
        Check.due("above an int", x.fine(0, 1000000007L), 9000000063L);
        x.apply(0, 1);
        x.decide(0, 1);
        Check.due("when it is met", x.fine(0, 5), 45);
        Check.due("out of range", x.fine(0, MOST + 1), Check.INVALID);
    }

    private static void fineOfManyDays() {
        Check.part("promise 18: its limit");
        TriggerConditions x = new TriggerConditions();
        x.condition(0, 0, 0, 1);
        x.begin(0);
        x.serve(0, 1);
        x.pass(1);
        x.pass(96);
        Check.due("96 days", x.fine(0, MOST), 9216 * MOST);
        x.pass(1);
        Check.due("97 days", x.fine(0, MOST), Check.LIMIT);
        long most = Long.MAX_VALUE / 9409;
        Check.due("97 days, the last that goes", x.fine(0, most), most * 9409);
        Check.due("97 days, one more", x.fine(0, most + 1), Check.LIMIT);
        for (int i = 0; i < 24; i++) {
            x.pass(400);
        }
        x.pass(9999 - 9600 - 98);
        Check.due("overdue", x.conditionOf(0, 11), 9998);
        Check.due("out of range first", x.fine(0, MOST + 1), Check.INVALID);
        Check.due("far above", x.fine(0, MOST), Check.LIMIT);
        long last = Long.MAX_VALUE / (9998L * 9998L);
        Check.due("the last that goes", x.fine(0, last), last * 9998L * 9998L);
        Check.due("one more", x.fine(0, last + 1), Check.LIMIT);
    }

    private static void share() {
        Check.part("promise 19: share");
        Check.due("no condition", new TriggerConditions().share(), Check.MISSING);
        for (int all = 1; all <= 10; all++) {
            TriggerConditions x = new TriggerConditions();
            for (int i = 0; i < all; i++) {
                x.condition(0, 0, 0, 1);
            }
            for (int met = 0; met <= all; met++) {
                Check.due(met + " of " + all, x.share(), Float.floatToIntBits((float) met / (float) all));
                if (met < all) {
                    x.apply(met, 1);
                    x.decide(met, 1);
                }
            }
        }
        TriggerConditions y = new TriggerConditions();
        y.condition(0, 0, 0, 1);
        y.condition(2, 0, 1, 1);
        y.begin(0);
        y.finish(0);
        y.set(1, 1);
        y.pass(1);
        Check.due("kind 2", y.share(), Float.floatToIntBits(0.5f));
        y.apply(0, 1);
        y.decide(0, 1);
        Check.due("an immune one is not met", y.share(), Float.floatToIntBits(0.5f));
    }
}
