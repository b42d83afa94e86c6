/** Conditions of a permission to build; ../shared/DOC.md tells what each call does. */
public final class TriggerConditions {
    public static final int INVALID_ARGUMENT = -1000001;
    public static final int NOT_POSSIBLE = -1000002;
    public static final int LIMIT_REACHED = -1000003;
    public static final int NOT_FOUND = -1000004;

    private static final int STAGES = 5;
    private static final int MAX_CONDITIONS = 10;
    private static final int MAX_DAYS = 365;
    private static final int MAX_PARTS = 6;
    private static final int MAX_NOTICE = 99;
    private static final int MAX_PASS = 400;
    private static final int LAST_DAY = 9999;
    private static final int FORECAST_DAYS = 400;
    private static final int HISTORY_STATES = 4;
    private static final int TEXT_LENGTH = 80;
    private static final long MAX_RATE = 1000000000000000L;
    private static final long MAX_FINE = 9223372036854775807L;

    private static final int AHEAD = 0;
    private static final int WITHIN = 1;
    private static final int KEPT = 2;

    private static final int ASLEEP = 0;
    private static final int RUNNING = 1;
    private static final int MET = 2;
    private static final int IN_BREACH = 3;
    private static final int IMMUNE = 4;

    private static final int VARY_DAYS = 0;
    private static final int VARY_PARTS = 1;
    private static final int VARY_STAGE = 2;

    /** A day that has not come: a stage has it while it is not begun or not finished. */
    private static final int NO_DAY = -1;

    private static final int BAD_FORM = 1;
    private static final int BAD_CALL = 2;

    private final Permission now = new Permission();
    private final Permission trial = new Permission();
    private final Permission[] history = new Permission[HISTORY_STATES];
    private final Orders orders = new Orders();
    private Permission before = new Permission();
    private int states = 0;

    public TriggerConditions() {
        for (int i = 0; i < HISTORY_STATES; i++) {
            history[i] = new Permission();
        }
    }

    // ---- conditions and stages

    public int condition(int kind, int stage, int days, int parts) {
        before.copyFrom(now);
        return recorded(now.addCondition(kind, stage, days, parts));
    }

    public int begin(int stage) {
        before.copyFrom(now);
        return recorded(now.beginStage(stage));
    }

    public int finish(int stage) {
        before.copyFrom(now);
        return recorded(now.finishStage(stage));
    }

    // ---- discharge

    public int apply(int condition, int parts) {
        before.copyFrom(now);
        return recorded(now.applyFor(condition, parts));
    }

    public int decide(int condition, int approved) {
        before.copyFrom(now);
        return recorded(now.decideOn(condition, approved));
    }

    public int lapse(int condition) {
        before.copyFrom(now);
        return recorded(now.lapseOf(condition));
    }

    public int cure(int condition) {
        before.copyFrom(now);
        return recorded(now.cureOf(condition));
    }

    public int serve(int condition, int days) {
        before.copyFrom(now);
        return recorded(now.serveOn(condition, days));
    }

    public int vary(int condition, int what, int value) {
        before.copyFrom(now);
        return recorded(now.varyTo(condition, what, value));
    }

    // ---- time

    public int pass(int days) {
        before.copyFrom(now);
        return recorded(now.passDays(days));
    }

    public int set(int what, int value) {
        before.copyFrom(now);
        return recorded(now.putSetting(what, value));
    }

    // ---- what there is

    public int conditionOf(int condition, int what) {
        if (!now.hasCondition(condition)) {
            return INVALID_ARGUMENT;
        }
        Condition c = now.conditions[condition];
        switch (what) {
            case 0: return c.kind;
            case 1: return c.stage;
            case 2: return c.days;
            case 3: return c.parts;
            case 4: return now.stateOf(c);
            case 5: return c.approved;
            case 6: return c.applied;
            case 7: return c.applied != 0 ? c.appliedDays : NOT_FOUND;
            case 8: return c.clock;
            case 9: return c.inBreach ? c.age : NOT_FOUND;
            case 10: return c.noticed ? c.noticeDays : NOT_FOUND;
            case 11: return c.overdue;
            default: return INVALID_ARGUMENT;
        }
    }

    public int stageOf(int stage, int what) {
        if (!isWithin(stage, 0, STAGES - 1)) {
            return INVALID_ARGUMENT;
        }
        switch (what) {
            case 0: return now.progressOf(stage);
            case 1: return now.isBegun(stage) ? now.begunOn[stage] : NOT_FOUND;
            case 2: return now.isFinished(stage) ? now.finishedOn[stage] : NOT_FOUND;
            case 3: return now.unmetAhead(stage);
            default: return INVALID_ARGUMENT;
        }
    }

    public int which(int state) {
        if (!isWithin(state, ASLEEP, IMMUNE)) {
            return INVALID_ARGUMENT;
        }
        return now.withState(state);
    }

    // ---- what would be, if nothing else is done

    public int when(int condition, int state) {
        if (!now.hasCondition(condition) || !isWithin(state, ASLEEP, IMMUNE)) {
            return INVALID_ARGUMENT;
        }
        trial.copyFrom(now);
        return trial.daysUntil(condition, state);
    }

    public int lawful(int stage) {
        if (!isWithin(stage, 0, STAGES - 1)) {
            return INVALID_ARGUMENT;
        }
        if (!now.canBegin(stage)) {
            return NOT_POSSIBLE;
        }
        trial.copyFrom(now);
        return trial.daysUntilLawful(stage);
    }

    public long fine(int condition, long rate) {
        if (!now.hasCondition(condition) || rate < 1 || rate > MAX_RATE) {
            return INVALID_ARGUMENT;
        }
        long days = now.conditions[condition].overdue;
        long square = days * days;
        if (square > 0 && rate > MAX_FINE / square) {
            return LIMIT_REACHED;
        }
        return rate * square;
    }

    public int share() {
        int all = now.conditionCount;
        if (all <= 0) {
            return NOT_FOUND;
        }
        int met = Integer.bitCount(now.withState(MET));
        return bitsOf((float) met / (float) all);
    }

    public int count(int what) {
        switch (what) {
            case 0: return now.conditionCount;
            case 1: return now.day;
            case 2: return now.partsOfAll();
            case 3: return now.approvedOfAll();
            case 4: return now.breaches;
            case 5: return now.presumed;
            case 6: return states;
            case 7: return orders.length;
            case 20: return now.applicationDays;
            case 21: return now.immunityAge;
            default: return INVALID_ARGUMENT;
        }
    }

    public int undo() {
        if (states <= 0) {
            return NOT_POSSIBLE;
        }
        states--;
        now.copyFrom(history[states]);
        return states;
    }

    // ---- texts

    public int type(int character) {
        if (!isWithin(character, 32, 126)) {
            return INVALID_ARGUMENT;
        }
        return orders.append((char) character);
    }

    public int clearText() {
        return orders.empty();
    }

    public int fault(int what) {
        if (!isWithin(what, 0, 2)) {
            return INVALID_ARGUMENT;
        }
        trial.copyFrom(now);
        orders.doAll(trial);
        if (orders.reason == 0) {
            return NOT_FOUND;
        }
        switch (what) {
            case 0: return orders.start;
            case 1: return orders.reason;
            default: return orders.cause;
        }
    }

    public int play() {
        trial.copyFrom(now);
        int done = orders.doAll(trial);
        if (orders.reason != 0) {
            return NOT_POSSIBLE;
        }
        before.copyFrom(now);
        now.copyFrom(trial);
        return recorded(done);
    }

    /** Puts the state before a change into the history, unless its answer is an error (no other answer is negative). */
    private int recorded(int answer) {
        if (answer < 0) {
            return answer;
        }
        if (states >= HISTORY_STATES) {
            rotateHistory();
            states = HISTORY_STATES - 1;
        }
        // rows are swapped, not made, so that no change makes an object
        Permission spare = history[states];
        history[states] = before;
        before = spare;
        states++;
        return answer;
    }

    /** Moves every state one row down, the oldest one to the last row. */
    private void rotateHistory() {
        Permission oldest = history[0];
        for (int i = 1; i < HISTORY_STATES; i++) {
            history[i - 1] = history[i];
        }
        history[HISTORY_STATES - 1] = oldest;
    }

    private static boolean isWithin(int number, int least, int most) {
        return number >= least && number <= most;
    }

    /** The bits of a float from 0 to 1, built by hand: LANGUAGE.md lists no call for them. */
    private static int bitsOf(float value) {
        if (!(value > 0.0f)) {
            return 0;
        }
        float scaled = value;
        int exponent = 127;
        while (scaled < 1.0f && exponent > 1) {
            scaled = scaled * 2.0f;
            exponent--;
        }
        return (exponent << 23) | (int) ((scaled - 1.0f) * 8388608.0f);
    }

    /** A condition, as far as it does not depend on its stage. */
    private static final class Condition {
        private int kind = AHEAD;
        private int stage = 0;
        private int days = 0;
        private int parts = 1;
        private int approved = 0;
        private int applied = 0;
        /** Of no meaning while nothing is applied for. */
        private int appliedDays = 0;
        /** Of the kind KEPT: for how many days it was kept. */
        private int clock = 0;
        private boolean inBreach = false;
        private boolean immune = false;
        private int age = 0;
        private boolean noticed = false;
        /** Of no meaning while there is no notice. */
        private int noticeDays = 0;
        private int overdue = 0;

        private void startAs(int newKind, int newStage, int newDays, int newParts) {
            kind = newKind;
            stage = newStage;
            days = newDays;
            parts = newParts;
            approved = 0;
            applied = 0;
            clock = 0;
            immune = false;
            overdue = 0;
            endBreach();
        }

        private void copyFrom(Condition other) {
            kind = other.kind;
            stage = other.stage;
            days = other.days;
            parts = other.parts;
            approved = other.approved;
            applied = other.applied;
            appliedDays = other.appliedDays;
            clock = other.clock;
            inBreach = other.inBreach;
            immune = other.immune;
            age = other.age;
            noticed = other.noticed;
            noticeDays = other.noticeDays;
            overdue = other.overdue;
        }

        private boolean isMet() {
            if (kind == KEPT) {
                return clock >= days;
            }
            return approved == (1 << parts) - 1;
        }

        private boolean isPartsSet(int set) {
            return set >= 0 && set < (1 << parts);
        }

        /** Approves some of the parts that are applied for; the others are open again. */
        private void approve(int set) {
            approved = approved | set;
            applied = 0;
            if (inBreach && isMet()) {
                endBreach();
            }
        }

        private void endBreach() {
            inBreach = false;
            age = 0;
            noticed = false;
        }

        private void ageBreach(int immunityAge) {
            age++;
            if (noticed && noticeDays > 0) {
                noticeDays--;
            } else if (noticed) {
                overdue++;
            } else if (age >= immunityAge) {
                endBreach();
                immune = true;
            }
        }
    }

    /** Everything that a change records: conditions, stages, the day, settings and counts. */
    private static final class Permission {
        private final Condition[] conditions = new Condition[MAX_CONDITIONS];
        private final int[] begunOn = new int[STAGES];
        private final int[] finishedOn = new int[STAGES];
        private int conditionCount = 0;
        private int day = 0;
        private int breaches = 0;
        private int presumed = 0;
        /** Setting 0. */
        private int applicationDays = 56;
        /** Setting 1. */
        private int immunityAge = 100;

        private Permission() {
            for (int i = 0; i < MAX_CONDITIONS; i++) {
                conditions[i] = new Condition();
            }
            for (int i = 0; i < STAGES; i++) {
                begunOn[i] = NO_DAY;
                finishedOn[i] = NO_DAY;
            }
        }

        private void copyFrom(Permission other) {
            conditionCount = other.conditionCount;
            for (int i = 0; i < conditionCount; i++) {
                conditions[i].copyFrom(other.conditions[i]);
            }
            for (int i = 0; i < STAGES; i++) {
                begunOn[i] = other.begunOn[i];
                finishedOn[i] = other.finishedOn[i];
            }
            day = other.day;
            breaches = other.breaches;
            presumed = other.presumed;
            applicationDays = other.applicationDays;
            immunityAge = other.immunityAge;
        }

        private boolean hasCondition(int number) {
            return number >= 0 && number < conditionCount;
        }

        private boolean isBegun(int stage) {
            return isWithin(stage, 0, STAGES - 1) && begunOn[stage] != NO_DAY;
        }

        private boolean isFinished(int stage) {
            return isWithin(stage, 0, STAGES - 1) && finishedOn[stage] != NO_DAY;
        }

        private boolean canBegin(int stage) {
            return !isBegun(stage) && (stage == 0 || isBegun(stage - 1));
        }

        private int progressOf(int stage) {
            if (isFinished(stage)) {
                return 2;
            }
            return isBegun(stage) ? 1 : 0;
        }

        private int stateOf(Condition c) {
            if (c.immune) {
                return IMMUNE;
            }
            if (c.inBreach) {
                return IN_BREACH;
            }
            if (c.isMet()) {
                return MET;
            }
            if (c.kind == WITHIN && !isBegun(c.stage)) {
                return ASLEEP;
            }
            if (c.kind == KEPT && !isFinished(c.stage)) {
                return ASLEEP;
            }
            return RUNNING;
        }

        private int withState(int state) {
            int found = 0;
            for (int i = 0; i < conditionCount; i++) {
                if (stateOf(conditions[i]) == state) {
                    found = found | (1 << i);
                }
            }
            return found;
        }

        /** The conditions of the kind AHEAD of a stage whose parts are not all approved. */
        private int unmetAhead(int stage) {
            int found = 0;
            for (int i = 0; i < conditionCount; i++) {
                Condition c = conditions[i];
                if (c.kind == AHEAD && c.stage == stage && !c.isMet()) {
                    found = found | (1 << i);
                }
            }
            return found;
        }

        private int partsOfAll() {
            int sum = 0;
            for (int i = 0; i < conditionCount; i++) {
                sum += conditions[i].parts;
            }
            return sum;
        }

        private int approvedOfAll() {
            int sum = 0;
            for (int i = 0; i < conditionCount; i++) {
                sum += Integer.bitCount(conditions[i].approved);
            }
            return sum;
        }

        private int addCondition(int kind, int stage, int days, int parts) {
            if (!isWithin(kind, AHEAD, KEPT) || !isWithin(stage, 0, STAGES - 1)
                    || !isWithin(days, leastDays(kind), MAX_DAYS) || !isWithin(parts, 1, MAX_PARTS)) {
                return INVALID_ARGUMENT;
            }
            if (isBegun(stage)) {
                return NOT_POSSIBLE;
            }
            if (conditionCount >= MAX_CONDITIONS) {
                return LIMIT_REACHED;
            }
            conditions[conditionCount].startAs(kind, stage, days, parts);
            conditionCount++;
            return conditionCount - 1;
        }

        private static int leastDays(int kind) {
            return kind == KEPT ? 1 : 0;
        }

        private int beginStage(int stage) {
            if (!isWithin(stage, 0, STAGES - 1)) {
                return INVALID_ARGUMENT;
            }
            if (!canBegin(stage)) {
                return NOT_POSSIBLE;
            }
            begunOn[stage] = day;
            int unmet = unmetAhead(stage);
            for (int i = 0; i < conditionCount; i++) {
                if ((unmet & (1 << i)) != 0) {
                    startBreach(conditions[i]);
                }
            }
            return unmet;
        }

        private int finishStage(int stage) {
            if (!isWithin(stage, 0, STAGES - 1)) {
                return INVALID_ARGUMENT;
            }
            if (!isBegun(stage) || isFinished(stage)) {
                return NOT_POSSIBLE;
            }
            finishedOn[stage] = day;
            return day - begunOn[stage];
        }

        private int applyFor(int number, int parts) {
            if (!hasCondition(number)) {
                return INVALID_ARGUMENT;
            }
            Condition c = conditions[number];
            if (parts == 0 || !c.isPartsSet(parts)) {
                return INVALID_ARGUMENT;
            }
            if (c.kind == KEPT || c.applied != 0 || (c.approved & parts) != 0) {
                return NOT_POSSIBLE;
            }
            c.applied = parts;
            c.appliedDays = 0;
            return applicationDays;
        }

        private int decideOn(int number, int approved) {
            if (!hasCondition(number)) {
                return INVALID_ARGUMENT;
            }
            Condition c = conditions[number];
            if (!c.isPartsSet(approved)) {
                return INVALID_ARGUMENT;
            }
            if (c.applied == 0 || (approved & ~c.applied) != 0) {
                return NOT_POSSIBLE;
            }
            c.approve(approved);
            return c.parts - Integer.bitCount(c.approved);
        }

        private int lapseOf(int number) {
            if (!hasCondition(number)) {
                return INVALID_ARGUMENT;
            }
            Condition c = conditions[number];
            if (c.kind != KEPT || stateOf(c) != RUNNING) {
                return NOT_POSSIBLE;
            }
            startBreach(c);
            return c.clock;
        }

        private int cureOf(int number) {
            if (!hasCondition(number)) {
                return INVALID_ARGUMENT;
            }
            Condition c = conditions[number];
            if (c.kind != KEPT || stateOf(c) != IN_BREACH) {
                return NOT_POSSIBLE;
            }
            int age = c.age;
            c.endBreach();
            return age;
        }

        private int serveOn(int number, int days) {
            if (!hasCondition(number) || !isWithin(days, 1, MAX_NOTICE)) {
                return INVALID_ARGUMENT;
            }
            Condition c = conditions[number];
            if (stateOf(c) != IN_BREACH) {
                return NOT_POSSIBLE;
            }
            c.noticed = true;
            c.noticeDays = days;
            return c.age;
        }

        private int varyTo(int number, int what, int value) {
            if (!hasCondition(number)) {
                return INVALID_ARGUMENT;
            }
            Condition c = conditions[number];
            if (!isVariation(c.kind, what, value)) {
                return INVALID_ARGUMENT;
            }
            if (!canVary(c, what, value)) {
                return NOT_POSSIBLE;
            }
            int was;
            switch (what) {
                case VARY_DAYS:
                    was = c.days;
                    c.days = value;
                    return was;
                case VARY_PARTS:
                    was = c.parts;
                    c.parts = value;
                    return was;
                default:
                    was = c.stage;
                    c.stage = value;
                    c.clock = 0;
                    return was;
            }
        }

        private static boolean isVariation(int kind, int what, int value) {
            switch (what) {
                case VARY_DAYS: return isWithin(value, leastDays(kind), MAX_DAYS);
                case VARY_PARTS: return isWithin(value, 1, MAX_PARTS);
                case VARY_STAGE: return isWithin(value, 0, STAGES - 1);
                default: return false;
            }
        }

        private boolean canVary(Condition c, int what, int value) {
            int state = stateOf(c);
            if ((state != ASLEEP && state != RUNNING) || c.applied != 0) {
                return false;
            }
            switch (what) {
                case VARY_DAYS: return c.kind == KEPT ? c.clock < value : c.clock <= value;
                case VARY_PARTS: return value > c.parts;
                default: return !isBegun(value);
            }
        }

        private int putSetting(int what, int value) {
            int was;
            if (what == 0 && isWithin(value, 0, 99)) {
                was = applicationDays;
                applicationDays = value;
                return was;
            }
            if (what == 1 && isWithin(value, 1, 365)) {
                was = immunityAge;
                immunityAge = value;
                return was;
            }
            return INVALID_ARGUMENT;
        }

        private int passDays(int days) {
            if (!isWithin(days, 1, MAX_PASS)) {
                return INVALID_ARGUMENT;
            }
            if (day + days > LAST_DAY) {
                return LIMIT_REACHED;
            }
            for (int d = 0; d < days; d++) {
                day++;
                for (int i = 0; i < conditionCount; i++) {
                    passDayOf(conditions[i]);
                }
            }
            return day;
        }

        private void passDayOf(Condition c) {
            boolean wasInBreach = c.inBreach;
            if (c.applied != 0) {
                c.appliedDays++;
                if (c.appliedDays >= applicationDays) {
                    presumed += Integer.bitCount(c.applied);
                    c.approve(c.applied);
                }
            }
            passClock(c);
            if (wasInBreach && c.inBreach) {
                c.ageBreach(immunityAge);
            }
        }

        private void passClock(Condition c) {
            if (c.immune || c.inBreach || c.isMet()) {
                return;
            }
            if (c.kind == WITHIN && isBegun(c.stage) && c.applied == 0) {
                c.clock++;
                if (c.clock > c.days) {
                    startBreach(c);
                }
            }
            if (c.kind == KEPT && isFinished(c.stage)) {
                c.clock++;
            }
        }

        private void startBreach(Condition c) {
            c.inBreach = true;
            breaches++;
        }

        /** Lets days pass for one condition alone, as conditions do not touch one another. */
        private int daysUntil(int number, int state) {
            if (!hasCondition(number)) {
                return NOT_FOUND;
            }
            Condition c = conditions[number];
            for (int d = 0; d <= FORECAST_DAYS; d++) {
                if (stateOf(c) == state) {
                    return d;
                }
                passDayOf(c);
            }
            return NOT_FOUND;
        }

        /** A condition ahead of a stage that is not begun stays met, so the last one to be met tells. */
        private int daysUntilLawful(int stage) {
            int unmet = unmetAhead(stage);
            int latest = 0;
            for (int i = 0; i < conditionCount; i++) {
                if ((unmet & (1 << i)) != 0) {
                    int days = daysUntil(i, MET);
                    if (days == NOT_FOUND) {
                        return NOT_FOUND;
                    }
                    latest = Math.max(latest, days);
                }
            }
            return latest;
        }
    }

    /** The text, read order by order. */
    private static final class Orders {
        private static final int MAX_NUMBERS = 4;
        private static final int MAX_DIGITS = 3;

        private final char[] text = new char[TEXT_LENGTH];
        private final int[] numbers = new int[MAX_NUMBERS];
        private int length = 0;
        /** Where the order that was read last starts, and where reading stands. */
        private int start = 0;
        private int position = 0;
        /** Of the fault that doAll met; 0 if it met none. */
        private int reason = 0;
        private int cause = 0;

        private int append(char character) {
            if (length >= TEXT_LENGTH) {
                return LIMIT_REACHED;
            }
            text[length] = character;
            length++;
            return length;
        }

        private int empty() {
            int had = length;
            length = 0;
            return had;
        }

        /** Does the orders on a permission, up to the first that is not possible; answers how many it did. */
        private int doAll(Permission permission) {
            reason = 0;
            cause = 0;
            start = 0;
            position = 0;
            int done = 0;
            while (done < TEXT_LENGTH && position < length) {
                start = position;
                if (!readOrder()) {
                    reason = BAD_FORM;
                    cause = position - start;
                    return done;
                }
                int answer = doOrder(permission);
                if (answer < 0) {
                    reason = BAD_CALL;
                    cause = answer;
                    return done;
                }
                done++;
            }
            return done;
        }

        /** Reads one order; if it breaks off, the position is where. */
        private boolean readOrder() {
            int wanted = position < length ? numbersBehind(text[position]) : 0;
            if (wanted == 0) {
                return false;
            }
            position++;
            for (int i = 0; i < wanted; i++) {
                char behind = i < wanted - 1 ? ',' : ';';
                if (!readNumber(i) || !readSign(behind)) {
                    return false;
                }
            }
            return true;
        }

        /** How many numbers an order with this letter has; 0 if there is no such order. */
        private static int numbersBehind(char letter) {
            switch (letter) {
                case 'c': return 4;
                case 'a':
                case 'd': return 2;
                case 'b':
                case 'f':
                case 'p': return 1;
                default: return 0;
            }
        }

        private boolean readNumber(int index) {
            int value = 0;
            int digits = 0;
            while (digits < MAX_DIGITS && position < length && isDigit(text[position])) {
                value = value * 10 + (text[position] - '0');
                position++;
                digits++;
            }
            if (digits == 0 || index < 0 || index >= MAX_NUMBERS) {
                return false;
            }
            numbers[index] = value;
            return true;
        }

        private static boolean isDigit(char character) {
            return character >= '0' && character <= '9';
        }

        private boolean readSign(char sign) {
            if (position >= length || text[position] != sign) {
                return false;
            }
            position++;
            return true;
        }

        private int doOrder(Permission permission) {
            switch (text[start]) {
                case 'c': return permission.addCondition(numbers[0], numbers[1], numbers[2], numbers[3]);
                case 'b': return permission.beginStage(numbers[0]);
                case 'f': return permission.finishStage(numbers[0]);
                case 'a': return permission.applyFor(numbers[0], numbers[1]);
                case 'd': return permission.decideOn(numbers[0], numbers[1]);
                default: return permission.passDays(numbers[0]);
            }
        }
    }
}
