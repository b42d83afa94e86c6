/** The boundary cases of the promises 16 to 19. */
final class ForecastBounds {
    private static final long MOST_RATE = 1000000000000000L;

    private ForecastBounds() {
    }

    static void all() {
        whenTells();
        whenAbove();
        whenCondition();
        whenState();
        whenAnswer();
        whenInvalid();
        whenMissing();
        lawfulTells();
        lawfulAbove();
        lawfulStage();
        lawfulAnswer();
        lawfulInvalid();
        lawfulImpossible();
        lawfulMissing();
        fineTells();
        fineCondition();
        fineRate();
        fineAnswer();
        fineInvalid();
        fineLimit();
        share();
        shareAnswer();
        shareMissing();
    }

    private static void whenTells() {
        Check.sentence("Promise 16", "Tells behind how many days a condition has a state for the first time");
        TriggerConditions x = Make.withinRunning(0, 1);
        x.set(1, 5);
        Check.due("in breach", x.when(0, 3), 1);
        Check.due("immune", x.when(0, 4), 6);
        Check.due("running: the first time is now", x.when(0, 1), 0);
        x.pass(1);
        Check.due("in breach: the first time is now", x.when(0, 3), 0);
        Check.due("running no more", x.when(0, 1), Check.MISSING);
        TriggerConditions y = Make.withinRunning(70, 2);
        y.apply(0, 1);
        Check.due("the clock stands while the application is open", y.when(0, 3), 55 + 71);
        TriggerConditions z = Make.keptRunning(7);
        z.pass(3);
        Check.due("kept", z.when(0, 2), 4);
        Check.still("and no change", () -> Make.withinRunning(70, 2), u -> u.when(0, 4), 171);
    }

    private static void whenAbove() {
        Check.sentence("Promise 16", "(the day may be above 9999 then).");
        TriggerConditions x = Make.onDay(9999);
        x.condition(1, 0, 299, 1);
        x.begin(0);
        Check.due("in breach", x.when(0, 3), 300);
        Check.due("immune", x.when(0, 4), 400);
        Check.due("the day", x.count(1), 9999);
    }

    private static void whenCondition() {
        Check.sentence("Promise 16", "condition: number of the condition");
        TriggerConditions x = new TriggerConditions();
        for (int c = 0; c < 10; c++) {
            x.condition(1, 0, c, 1);
        }
        x.begin(0);
        for (int c = 0; c < 10; c++) {
            Check.due("when of " + c, x.when(c, 3), c + 1);
        }
        Check.due("below", x.when(-1, 3), Check.INVALID);
        Check.due("above", x.when(10, 3), Check.INVALID);
    }

    private static void whenState() {
        Check.sentence("Promise 16", "state: 0 to 4");
        int[] due = {Check.MISSING, 0, Check.MISSING, 10, 110};
        for (int state = 0; state <= 4; state++) {
            Check.due("when(0, " + state + ")", Make.withinRunning(9, 1).when(0, state), due[state]);
        }
        Check.due("below", Make.withinRunning(9, 1).when(0, -1), Check.INVALID);
        Check.due("above", Make.withinRunning(9, 1).when(0, 5), Check.INVALID);
    }

    private static void whenAnswer() {
        Check.sentence("Promise 16", "Returns how many days (0 if it has it now);");
        Check.due("asleep now", Make.one(1, 0, 9, 1).when(0, 0), 0);
        Check.due("running now", Make.one(0, 0, 9, 1).when(0, 1), 0);
        TriggerConditions met = Make.one(0, 0, 9, 1);
        Make.approve(met, 0, 1);
        Check.due("met now", met.when(0, 2), 0);
        Check.due("in breach now", Make.aheadInBreach().when(0, 3), 0);
        Check.due("immune now", Make.immune(Make.aheadInBreach()).when(0, 4), 0);
        TriggerConditions x = Make.one(0, 0, 9, 1);
        x.set(0, 0);
        x.apply(0, 1);
        Check.due("one day", x.when(0, 2), 1);
        x.set(0, 99);
        Check.due("99 days", x.when(0, 2), 99);
    }

    private static void whenInvalid() {
        Check.sentence("Promise 16", "INVALID_ARGUMENT if an argument is out of range;");
        int[][] beside = {{-1, 0}, {1, 0}, {10, 0}, {0, -1}, {0, 5}, {1, 5}};
        for (int[] b : beside) {
            Check.still("when(" + b[0] + ", " + b[1] + ")", Make::aheadInBreach, x -> x.when(b[0], b[1]), Check.INVALID);
        }
        for (int far : Make.FAR) {
            Check.still("when(" + far + ", 0)", Make::aheadInBreach, x -> x.when(far, 0), Check.INVALID);
            Check.still("when(0, " + far + ")", Make::aheadInBreach, x -> x.when(0, far), Check.INVALID);
        }
        Check.still("no condition at all", Make::fresh, x -> x.when(0, 0), Check.INVALID);
    }

    private static void whenMissing() {
        Check.sentence("Promise 16", "NOT_FOUND if it is not so within 400 days.");
        for (int days = 33; days <= 36; days++) {
            int any = days;
            // in breach behind days + 1, immune 365 later
            Check.still("immune behind " + (days + 366), () -> {
                TriggerConditions x = Make.withinRunning(any, 1);
                x.set(1, 365);
                return x;
            }, x -> x.when(0, 4), days + 366 <= 400 ? days + 366 : Check.MISSING);
        }
        Check.due("400", behind(34), 400);
        Check.due("401", behind(35), Check.MISSING);
        Check.due("never", Make.one(0, 0, 0, 1).when(0, 2), Check.MISSING);
    }

    private static int behind(int days) {
        TriggerConditions x = Make.withinRunning(days, 1);
        x.set(1, 365);
        return x.when(0, 4);
    }

    private static void lawfulTells() {
        Check.sentence("Promise 17", "Tells behind how many days a stage could be begun without a breach for the first time");
        TriggerConditions x = new TriggerConditions();
        x.condition(0, 0, 0, 2);
        x.condition(0, 0, 0, 1);
        x.condition(0, 1, 0, 1);
        x.condition(1, 0, 0, 1);
        x.condition(2, 0, 1, 1);
        x.apply(0, 3);
        x.pass(6);
        x.apply(1, 1);
        Check.due("the later one of two", x.lawful(0), 56);
        x.decide(1, 1);
        Check.due("the one that is left", x.lawful(0), 50);
        x.pass(49);
        Check.due("on the day ahead", x.lawful(0), 1);
        x.pass(1);
        Check.due("now", x.lawful(0), 0);
        Check.due("as told", x.begin(0), 0);
        Check.still("and no change", () -> {
            TriggerConditions y = Make.one(0, 0, 0, 1);
            y.apply(0, 1);
            return y;
        }, y -> y.lawful(0), 56);
        TriggerConditions z = Make.ten(0, 0, 0, 1);
        for (int c = 0; c < 10; c++) {
            z.apply(c, 1);
            z.pass(1);
        }
        Check.due("the last one of ten", z.lawful(0), 55);
    }

    private static void lawfulAbove() {
        Check.sentence("Promise 17", "(the day may be above 9999 then).");
        TriggerConditions x = Make.onDay(9999);
        x.condition(0, 0, 0, 1);
        x.set(0, 99);
        x.apply(0, 1);
        Check.due("99 days", x.lawful(0), 99);
        Check.due("the day", x.count(1), 9999);
    }

    private static void lawfulStage() {
        Check.sentence("Promise 17", "stage: 0 to 4");
        TriggerConditions x = new TriggerConditions();
        for (int stage = 0; stage <= 4; stage++) {
            Check.due("lawful(" + stage + ")", x.lawful(stage), 0);
            x.begin(stage);
        }
        Check.due("below", x.lawful(-1), Check.INVALID);
        Check.due("above", x.lawful(5), Check.INVALID);
    }

    private static void lawfulAnswer() {
        Check.sentence("Promise 17", "Returns how many days;");
        for (int days : new int[] {0, 1, 2, 99}) {
            TriggerConditions x = Make.one(0, 0, 0, 6);
            x.set(0, days);
            x.apply(0, 63);
            Check.due("setting " + days, x.lawful(0), Math.max(days, 1));
        }
        Check.due("no conditions", new TriggerConditions().lawful(0), 0);
    }

    private static void lawfulInvalid() {
        Check.sentence("Promise 17", "INVALID_ARGUMENT if stage is out of range;");
        Check.still("lawful(-1)", Make::fresh, x -> x.lawful(-1), Check.INVALID);
        Check.still("lawful(5)", Make::fresh, x -> x.lawful(5), Check.INVALID);
        for (int far : Make.FAR) {
            Check.still("lawful(" + far + ")", Make::fresh, x -> x.lawful(far), Check.INVALID);
        }
    }

    private static void lawfulImpossible() {
        Check.sentence("Promise 17", "NOT_POSSIBLE if it has begun, or the one ahead of it has not;");
        for (int stage = 0; stage < 5; stage++) {
            int any = stage;
            Check.still("begun, " + stage, () -> {
                TriggerConditions x = Make.one(0, any, 0, 1);
                Make.beginTo(x, any);
                return x;
            }, x -> x.lawful(any), Check.IMPOSSIBLE);
            Check.still("finished, " + stage, () -> {
                TriggerConditions x = new TriggerConditions();
                Make.beginTo(x, any);
                x.finish(any);
                return x;
            }, x -> x.lawful(any), Check.IMPOSSIBLE);
            if (stage > 0) {
                Check.still("the one ahead has not, " + stage, () -> {
                    TriggerConditions x = Make.one(0, any, 0, 1);
                    Make.beginTo(x, any - 2);
                    return x;
                }, x -> x.lawful(any), Check.IMPOSSIBLE);
            }
        }
    }

    private static void lawfulMissing() {
        Check.sentence("Promise 17", "NOT_FOUND if it is not so within 400 days.");
        Check.still("nothing is applied for", () -> Make.one(0, 0, 0, 1), x -> x.lawful(0), Check.MISSING);
        TriggerConditions y = Make.one(0, 0, 0, 2);
        y.apply(0, 1);
        Check.due("one part of two", y.lawful(0), Check.MISSING);
        TriggerConditions z = Make.ten(0, 0, 0, 1);
        for (int c = 0; c < 9; c++) {
            z.apply(c, 1);
        }
        Check.due("nine of ten", z.lawful(0), Check.MISSING);
        z.apply(9, 1);
        Check.due("ten of ten", z.lawful(0), 56);
    }

    private static void fineTells() {
        Check.sentence("Promise 18", "Tells the fine for a condition: a rate times the days for which it is overdue, "
            + "times these once more.");
        for (int days : new int[] {0, 1, 2, 3, 300}) {
            TriggerConditions x = Make.overdue(days);
            Check.due("overdue", x.conditionOf(0, 11), days);
            Check.due("the rate 1", x.fine(0, 1), (long) days * days);
            Check.due("the rate 70", x.fine(0, 70), 70L * days * days);
        }
        TriggerConditions y = Make.overdue(7);
        Make.approve(y, 0, 3);
        Check.due("when the breach has ended", y.fine(0, 2), 98);
        Check.still("and no change", () -> Make.overdue(7), x -> x.fine(0, 2), 98);
    }

    private static void fineCondition() {
        Check.sentence("Promise 18", "condition: number of the condition");
        TriggerConditions x = Make.ten(0, 0, 0, 1);
        x.begin(0);
        x.serve(9, 1);
        x.pass(3);
        Check.due("the last one", x.fine(9, 1), 4);
        Check.due("the one ahead", x.fine(8, 1), 0);
        Check.due("below", x.fine(-1, 1), Check.INVALID);
        Check.due("above", x.fine(10, 1), Check.INVALID);
    }

    private static void fineRate() {
        Check.sentence("Promise 18", "rate: 1 to 1000000000000000");
        for (int days : new int[] {0, 3}) {
            TriggerConditions x = Make.overdue(days);
            long square = (long) days * days;
            Check.due("least", x.fine(0, 1), square);
            Check.due("most", x.fine(0, MOST_RATE), MOST_RATE * square);
            Check.due("one less", x.fine(0, MOST_RATE - 1), (MOST_RATE - 1) * square);
            Check.due("beyond an int", x.fine(0, 1L << 32), square << 32);
            Check.due("below", x.fine(0, 0), Check.INVALID);
            Check.due("above", x.fine(0, MOST_RATE + 1), Check.INVALID);
        }
    }

    private static void fineAnswer() {
        Check.sentence("Promise 18", "Returns the fine;");
        Check.due("beyond an int", Make.overdue(300).fine(0, 1000000), 90000000000L);
        Check.due("none", Make.overdue(0).fine(0, MOST_RATE), 0);
        Check.due("none", Make.one(0, 0, 0, 1).fine(0, MOST_RATE), 0);
        Check.due("the most days", Make.overdue(9998).fine(0, 1), 99960004);
    }

    private static void fineInvalid() {
        Check.sentence("Promise 18", "INVALID_ARGUMENT if an argument is out of range;");
        long[] far = {0, -1, MOST_RATE + 1, Long.MIN_VALUE, Long.MIN_VALUE + 1, Long.MAX_VALUE, -(1L << 32) + 1, 1L << 62};
        for (long rate : far) {
            Check.still("fine(0, " + rate + ")", () -> Make.overdue(2), x -> x.fine(0, rate), Check.INVALID);
            Check.still("above the limit, fine(0, " + rate + ")", () -> Make.overdue(400),
                x -> x.fine(0, rate), Check.INVALID);
        }
        for (int number : Make.FAR) {
            Check.still("fine(" + number + ", 1)", () -> Make.overdue(2), x -> x.fine(number, 1), Check.INVALID);
        }
        for (int number : new int[] {-1, 1, 10}) {
            Check.still("fine(" + number + ", 1)", () -> Make.overdue(2), x -> x.fine(number, 1), Check.INVALID);
        }
        Check.still("no condition at all", Make::fresh, x -> x.fine(0, 1), Check.INVALID);
    }

    private static void fineLimit() {
        Check.sentence("Promise 18", "LIMIT_REACHED if it is above 9223372036854775807.");
        Check.due("96 days, the most", Make.overdue(96).fine(0, MOST_RATE), 9216000000000000000L);
        for (int days : new int[] {97, 98, 128, 4096, 8192, 9998}) {
            TriggerConditions x = Make.overdue(days);
            long square = (long) days * days;
            long last = Long.MAX_VALUE / square;
            Check.due("the last that goes, " + days, x.fine(0, last), last * square);
            Check.due("one more, " + days, x.fine(0, last + 1), Check.LIMIT);
            Check.due("the most, " + days, x.fine(0, MOST_RATE), Check.LIMIT);
        }
        // these would be 0 and 1 times the square if the numbers wrapped around
        Check.due("2 to the 64", Make.overdue(8192).fine(0, 1L << 38), Check.LIMIT);
        Check.due("2 to the 64 and more", Make.overdue(8192).fine(0, (1L << 38) + 1), Check.LIMIT);
        Check.still("and no change", () -> Make.overdue(400), x -> x.fine(0, MOST_RATE), Check.LIMIT);
    }

    private static void share() {
        Check.sentence("Promise 19", "Returns the bits of the share of conditions that are met, as a float: how many of them have "
            + "the state 2, as a float, divided by how many there are, as a float.");
        for (int all = 1; all <= 10; all++) {
            TriggerConditions x = new TriggerConditions();
            for (int i = 0; i < all; i++) {
                x.condition(0, 0, 0, 1);
            }
            for (int met = 0; met <= all; met++) {
                Check.due(met + " of " + all, x.share(), Float.floatToRawIntBits((float) met / (float) all));
                Make.approve(x, met, 1);
            }
        }
        TriggerConditions z = Make.immune(Make.aheadInBreach());
        Make.approve(z, 0, 3);
        Check.due("immune is not met", z.share(), 0);
    }

    private static void shareAnswer() {
        Check.sentence("Promise 19", "Returns the bits of the float;");
        Check.due("none is 0", Make.one(0, 0, 0, 1).share(), 0);
        TriggerConditions y = Make.keptRunning(1);
        y.pass(1);
        Check.due("all is 1", y.share(), 0x3f800000);
        y.condition(0, 1, 0, 1);
        Check.due("a half", y.share(), 0x3f000000);
        y.condition(0, 1, 0, 1);
        Check.due("a third, rounded up", y.share(), 0x3eaaaaab);
        Check.still("and no change", () -> Make.one(0, 0, 0, 1), TriggerConditions::share, 0);
    }

    private static void shareMissing() {
        Check.sentence("Promise 19", "NOT_FOUND if there is no condition.");
        Check.still("new", Make::fresh, TriggerConditions::share, Check.MISSING);
        TriggerConditions x = Make.one(0, 0, 0, 1);
        Check.due("one", x.share(), 0);
        x.undo();
        Check.due("none again", x.share(), Check.MISSING);
    }
}
