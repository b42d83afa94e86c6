/** Permissions in the states from which tests start. */
final class Make {
    /** Numbers that are far outside every range. */
    static final int[] FAR = {Integer.MIN_VALUE, Integer.MIN_VALUE + 1, -1000001, 1 << 16, 1 << 30, Integer.MAX_VALUE};

    private Make() {
    }

    static TriggerConditions fresh() {
        return new TriggerConditions();
    }

    /** One condition, numbered 0. */
    static TriggerConditions one(int kind, int stage, int days, int parts) {
        TriggerConditions x = new TriggerConditions();
        x.condition(kind, stage, days, parts);
        return x;
    }

    /** Ten conditions of a kind. */
    static TriggerConditions ten(int kind, int stage, int days, int parts) {
        TriggerConditions x = new TriggerConditions();
        for (int i = 0; i < 10; i++) {
            x.condition(kind, stage, days, parts);
        }
        return x;
    }

    static TriggerConditions onDay(int day) {
        TriggerConditions x = new TriggerConditions();
        pass(x, day);
        return x;
    }

    /** Lets any number of days pass. */
    static void pass(TriggerConditions x, int days) {
        int left = days;
        while (left > 0) {
            x.pass(Math.min(left, 400));
            left -= 400;
        }
    }

    static void approve(TriggerConditions x, int condition, int parts) {
        x.apply(condition, parts);
        x.decide(condition, parts);
    }

    /** Begins the stages from 0 up to one. */
    static void beginTo(TriggerConditions x, int stage) {
        for (int s = 0; s <= stage; s++) {
            x.begin(s);
        }
    }

    /** A condition of the kind 0, two parts, in breach since today. */
    static TriggerConditions aheadInBreach() {
        TriggerConditions x = one(0, 0, 0, 2);
        x.begin(0);
        return x;
    }

    /** A condition of the kind 1 with a clock that runs. */
    static TriggerConditions withinRunning(int days, int parts) {
        TriggerConditions x = one(1, 0, days, parts);
        x.begin(0);
        return x;
    }

    /** A condition of the kind 1, no days, two parts, in breach since today (day 1). */
    static TriggerConditions withinInBreach() {
        TriggerConditions x = withinRunning(0, 2);
        x.pass(1);
        return x;
    }

    /** A condition of the kind 2 that has to be kept from today on. */
    static TriggerConditions keptRunning(int days) {
        TriggerConditions x = one(2, 0, days, 1);
        x.begin(0);
        x.finish(0);
        return x;
    }

    /** A condition of the kind 2, kept for some of its days, that lapsed today. */
    static TriggerConditions keptInBreach(int days, int kept) {
        TriggerConditions x = keptRunning(days);
        pass(x, kept);
        x.lapse(0);
        return x;
    }

    /** Lets a breach of today become immune on the next day, and puts setting 1 back. */
    static TriggerConditions immune(TriggerConditions x) {
        int was = x.set(1, 1);
        x.pass(1);
        x.set(1, was);
        return x;
    }

    /** A condition of the kind 0 that is overdue for some days. */
    static TriggerConditions overdue(int days) {
        TriggerConditions x = aheadInBreach();
        x.serve(0, 1);
        pass(x, days + 1);
        return x;
    }
}
