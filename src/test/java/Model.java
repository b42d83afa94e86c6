import java.math.BigInteger;
import java.util.ArrayDeque;
import java.util.ArrayList;
import java.util.Deque;
import java.util.List;
import java.util.regex.Matcher;
import java.util.regex.Pattern;

/**
 * A second reading of the document for RandomRunsTest, held in another way than the program: days as dates
 * instead of counters, parts one by one instead of sets, errors as exceptions, texts by a regular expression.
 */
final class Model {
    enum Part { OPEN, APPLIED, APPROVED }

    static final class Refused extends RuntimeException {
        private static final long serialVersionUID = 1L;
        final int code;

        Refused(int code) {
            super(null, null, false, false);
            this.code = code;
        }
    }

    static final class Cond {
        int kind;
        int stage;
        int days;
        List<Part> parts = new ArrayList<>();
        Integer appliedOn;
        int clock;
        Integer breachOn;
        Integer noticeUntil;
        boolean immune;
        int overdue;

        Cond copy() {
            Cond c = new Cond();
            c.kind = kind;
            c.stage = stage;
            c.days = days;
            c.parts = new ArrayList<>(parts);
            c.appliedOn = appliedOn;
            c.clock = clock;
            c.breachOn = breachOn;
            c.noticeUntil = noticeUntil;
            c.immune = immune;
            c.overdue = overdue;
            return c;
        }

        int setOf(Part kindOfPart) {
            int set = 0;
            for (int i = 0; i < parts.size(); i++) {
                set += parts.get(i) == kindOfPart ? 1 << i : 0;
            }
            return set;
        }

        boolean met() {
            return kind == 2 ? clock >= days : !parts.contains(Part.OPEN) && !parts.contains(Part.APPLIED);
        }

        void end() {
            breachOn = null;
            noticeUntil = null;
        }
    }

    static final class State {
        List<Cond> conds = new ArrayList<>();
        Integer[] begun = new Integer[5];
        Integer[] finished = new Integer[5];
        int[] settings = {56, 100};
        int day;
        int breaches;
        int presumed;

        State copy() {
            State s = new State();
            for (Cond c : conds) {
                s.conds.add(c.copy());
            }
            s.begun = begun.clone();
            s.finished = finished.clone();
            s.settings = settings.clone();
            s.day = day;
            s.breaches = breaches;
            s.presumed = presumed;
            return s;
        }

        Cond cond(int number) {
            demand(number >= 0 && number < conds.size(), Check.INVALID);
            return conds.get(number);
        }

        int stateOf(Cond c) {
            if (c.immune) {
                return 4;
            } else if (c.breachOn != null) {
                return 3;
            } else if (c.met()) {
                return 2;
            } else if (c.kind == 1 && begun[c.stage] == null || c.kind == 2 && finished[c.stage] == null) {
                return 0;
            }
            return 1;
        }

        void breach(Cond c) {
            c.breachOn = day;
            breaches++;
        }

        void day() {
            day++;
            List<Cond> old = new ArrayList<>();
            for (Cond c : conds) {
                if (c.breachOn != null) {
                    old.add(c);
                }
            }
            for (Cond c : conds) {
                if (c.appliedOn != null && day - c.appliedOn >= settings[0]) {
                    c.appliedOn = null;
                    for (int i = 0; i < c.parts.size(); i++) {
                        if (c.parts.get(i) == Part.APPLIED) {
                            c.parts.set(i, Part.APPROVED);
                            presumed++;
                        }
                    }
                    if (c.breachOn != null && c.met()) {
                        c.end();
                    }
                }
            }
            for (Cond c : conds) {
                boolean calm = !c.met() && c.breachOn == null && !c.immune;
                if (calm && c.kind == 1 && begun[c.stage] != null && c.appliedOn == null && ++c.clock > c.days) {
                    breach(c);
                } else if (calm && c.kind == 2 && finished[c.stage] != null) {
                    c.clock++;
                }
            }
            for (Cond c : old) {
                if (c.breachOn == null) {
                    continue;
                }
                if (c.noticeUntil != null) {
                    c.overdue += day > c.noticeUntil ? 1 : 0;
                } else if (day - c.breachOn >= settings[1]) {
                    c.end();
                    c.immune = true;
                }
            }
        }
    }

    private static final Pattern ORDER = Pattern.compile(
        "c\\d{1,3},\\d{1,3},\\d{1,3},\\d{1,3};|[bfp]\\d{1,3};|[ad]\\d{1,3},\\d{1,3};");

    private State state = new State();
    private final Deque<State> history = new ArrayDeque<>();
    private String text = "";

    static void demand(boolean wanted, int code) {
        if (!wanted) {
            throw new Refused(code);
        }
    }

    static void range(int number, int least, int most) {
        demand(number >= least && number <= most, Check.INVALID);
    }

    /** The answer of a call; a is its arguments. */
    long call(String name, long[] a) {
        State old = state.copy();
        try {
            long answer = name.equals("fine") ? fine((int) a[0], a[1]) : ask(name, ints(a));
            if (List.of("condition", "begin", "finish", "apply", "decide", "lapse", "cure", "serve", "vary", "pass", "set",
                "play").contains(name)) {
                history.addLast(old);
                if (history.size() > 4) {
                    history.removeFirst();
                }
            }
            return answer;
        } catch (Refused refused) {
            state = old;
            return refused.code;
        }
    }

    private static int[] ints(long[] a) {
        int[] numbers = new int[4];
        for (int i = 0; i < a.length; i++) {
            numbers[i] = (int) a[i];
        }
        return numbers;
    }

    private int ask(String name, int[] a) {
        switch (name) {
            case "conditionOf": return conditionOf(a[0], a[1]);
            case "stageOf": return stageOf(a[0], a[1]);
            case "which": return which(a[0]);
            case "when": return when(a[0], a[1]);
            case "lawful": return lawful(a[0]);
            case "share": return share();
            case "count": return count(a[0]);
            case "undo":
                demand(!history.isEmpty(), Check.IMPOSSIBLE);
                state = history.removeLast();
                return history.size();
            case "type":
                range(a[0], 32, 126);
                demand(text.length() < 80, Check.LIMIT);
                text += (char) a[0];
                return text.length();
            case "clearText":
                int had = text.length();
                text = "";
                return had;
            case "fault":
                range(a[0], 0, 2);
                int[] fault = run();
                demand(fault.length == 3, Check.MISSING);
                return fault[a[0]];
            case "play":
                State start = state;
                int[] played = run();
                demand(played.length == 1, Check.IMPOSSIBLE);
                State end = start.copy();
                state = end;
                replay();
                return played[0];
            default: return change(name, a);
        }
    }

    private int change(String name, int[] a) {
        switch (name) {
            case "condition": return condition(a[0], a[1], a[2], a[3]);
            case "begin": return begin(a[0]);
            case "finish":
                range(a[0], 0, 4);
                demand(state.begun[a[0]] != null && state.finished[a[0]] == null, Check.IMPOSSIBLE);
                state.finished[a[0]] = state.day;
                return state.day - state.begun[a[0]];
            case "apply": return apply(a[0], a[1]);
            case "decide": return decide(a[0], a[1]);
            case "lapse":
                Cond lapsed = state.cond(a[0]);
                demand(lapsed.kind == 2 && state.stateOf(lapsed) == 1, Check.IMPOSSIBLE);
                state.breach(lapsed);
                return lapsed.clock;
            case "cure":
                Cond cured = state.cond(a[0]);
                demand(cured.kind == 2 && state.stateOf(cured) == 3, Check.IMPOSSIBLE);
                int age = state.day - cured.breachOn;
                cured.end();
                return age;
            case "serve":
                Cond served = state.cond(a[0]);
                range(a[1], 1, 99);
                demand(state.stateOf(served) == 3, Check.IMPOSSIBLE);
                served.noticeUntil = state.day + a[1];
                return state.day - served.breachOn;
            case "vary": return vary(a[0], a[1], a[2]);
            case "pass":
                range(a[0], 1, 400);
                demand(state.day + a[0] <= 9999, Check.LIMIT);
                for (int i = 0; i < a[0]; i++) {
                    state.day();
                }
                return state.day;
            case "set":
                range(a[0], 0, 1);
                range(a[1], a[0] == 0 ? 0 : 1, a[0] == 0 ? 99 : 365);
                int was = state.settings[a[0]];
                state.settings[a[0]] = a[1];
                return was;
            default: throw new IllegalArgumentException(name);
        }
    }

    private int condition(int kind, int stage, int days, int parts) {
        range(kind, 0, 2);
        range(stage, 0, 4);
        range(days, kind == 2 ? 1 : 0, 365);
        range(parts, 1, 6);
        demand(state.begun[stage] == null, Check.IMPOSSIBLE);
        demand(state.conds.size() < 10, Check.LIMIT);
        Cond c = new Cond();
        c.kind = kind;
        c.stage = stage;
        c.days = days;
        for (int i = 0; i < parts; i++) {
            c.parts.add(Part.OPEN);
        }
        state.conds.add(c);
        return state.conds.size() - 1;
    }

    private int begin(int stage) {
        range(stage, 0, 4);
        demand(state.begun[stage] == null && (stage == 0 || state.begun[stage - 1] != null), Check.IMPOSSIBLE);
        state.begun[stage] = state.day;
        int set = 0;
        for (int i = 0; i < state.conds.size(); i++) {
            Cond c = state.conds.get(i);
            if (c.kind == 0 && c.stage == stage && !c.met()) {
                state.breach(c);
                set += 1 << i;
            }
        }
        return set;
    }

    private int apply(int number, int set) {
        Cond c = state.cond(number);
        range(set, 1, (int) Math.pow(2, c.parts.size()) - 1);
        demand(c.kind != 2 && c.appliedOn == null, Check.IMPOSSIBLE);
        for (int i = 0; i < c.parts.size(); i++) {
            if ((set >> i) % 2 == 1) {
                demand(c.parts.get(i) == Part.OPEN, Check.IMPOSSIBLE);
                c.parts.set(i, Part.APPLIED);
            }
        }
        c.appliedOn = state.day;
        return state.settings[0];
    }

    private int decide(int number, int set) {
        Cond c = state.cond(number);
        range(set, 0, (int) Math.pow(2, c.parts.size()) - 1);
        demand(c.appliedOn != null, Check.IMPOSSIBLE);
        int left = 0;
        for (int i = 0; i < c.parts.size(); i++) {
            boolean yes = (set >> i) % 2 == 1;
            demand(!yes || c.parts.get(i) == Part.APPLIED, Check.IMPOSSIBLE);
            if (c.parts.get(i) == Part.APPLIED) {
                c.parts.set(i, yes ? Part.APPROVED : Part.OPEN);
            }
            left += c.parts.get(i) == Part.APPROVED ? 0 : 1;
        }
        c.appliedOn = null;
        if (left == 0 && c.breachOn != null) {
            c.end();
        }
        return left;
    }

    private int vary(int number, int what, int value) {
        Cond c = state.cond(number);
        range(what, 0, 2);
        int[][] ranges = {{c.kind == 2 ? 1 : 0, 365}, {1, 6}, {0, 4}};
        range(value, ranges[what][0], ranges[what][1]);
        demand(state.stateOf(c) < 2 && c.appliedOn == null, Check.IMPOSSIBLE);
        int was;
        if (what == 0) {
            demand(c.kind == 2 ? c.clock < value : c.clock <= value, Check.IMPOSSIBLE);
            was = c.days;
            c.days = value;
        } else if (what == 1) {
            was = c.parts.size();
            demand(value > was, Check.IMPOSSIBLE);
            while (c.parts.size() < value) {
                c.parts.add(Part.OPEN);
            }
        } else {
            demand(state.begun[value] == null, Check.IMPOSSIBLE);
            was = c.stage;
            c.stage = value;
            c.clock = 0;
        }
        return was;
    }

    private int conditionOf(int number, int what) {
        Cond c = state.cond(number);
        range(what, 0, 11);
        demand(what != 7 || c.appliedOn != null, Check.MISSING);
        demand(what != 9 || c.breachOn != null, Check.MISSING);
        demand(what != 10 || c.noticeUntil != null, Check.MISSING);
        switch (what) {
            case 0: return c.kind;
            case 1: return c.stage;
            case 2: return c.days;
            case 3: return c.parts.size();
            case 4: return state.stateOf(c);
            case 5: return c.setOf(Part.APPROVED);
            case 6: return c.setOf(Part.APPLIED);
            case 7: return state.day - c.appliedOn;
            case 8: return c.clock;
            case 9: return state.day - c.breachOn;
            case 10: return Math.max(0, c.noticeUntil - state.day);
            default: return c.overdue;
        }
    }

    private int stageOf(int stage, int what) {
        range(stage, 0, 4);
        range(what, 0, 3);
        if (what == 0) {
            return (state.begun[stage] != null ? 1 : 0) + (state.finished[stage] != null ? 1 : 0);
        } else if (what == 3) {
            int set = 0;
            for (int i = 0; i < state.conds.size(); i++) {
                Cond c = state.conds.get(i);
                set += c.kind == 0 && c.stage == stage && !c.met() ? 1 << i : 0;
            }
            return set;
        }
        Integer on = what == 1 ? state.begun[stage] : state.finished[stage];
        demand(on != null, Check.MISSING);
        return on;
    }

    private int which(int wanted) {
        range(wanted, 0, 4);
        int set = 0;
        for (int i = 0; i < state.conds.size(); i++) {
            set += state.stateOf(state.conds.get(i)) == wanted ? 1 << i : 0;
        }
        return set;
    }

    private int when(int number, int wanted) {
        state.cond(number);
        range(wanted, 0, 4);
        State later = state.copy();
        int days = 0;
        while (later.stateOf(later.cond(number)) != wanted) {
            demand(++days <= 400, Check.MISSING);
            later.day();
        }
        return days;
    }

    private int lawful(int stage) {
        range(stage, 0, 4);
        demand(state.begun[stage] == null && (stage == 0 || state.begun[stage - 1] != null), Check.IMPOSSIBLE);
        State kept = state;
        State later = state.copy();
        try {
            for (int days = 0; days <= 400; days++) {
                state = later.copy();
                if (begin(stage) == 0) {
                    return days;
                }
                later.day();
            }
        } finally {
            state = kept;
        }
        throw new Refused(Check.MISSING);
    }

    private long fine(int number, long rate) {
        Cond c = state.cond(number);
        demand(rate >= 1 && rate <= 1000000000000000L, Check.INVALID);
        BigInteger days = BigInteger.valueOf(c.overdue);
        BigInteger fine = BigInteger.valueOf(rate).multiply(days).multiply(days);
        demand(fine.bitLength() < 64, Check.LIMIT);
        return fine.longValueExact();
    }

    private int share() {
        demand(!state.conds.isEmpty(), Check.MISSING);
        float met = 0;
        for (Cond c : state.conds) {
            met += state.stateOf(c) == 2 ? 1 : 0;
        }
        return Float.floatToIntBits(met / state.conds.size());
    }

    private int count(int what) {
        int parts = 0;
        int approved = 0;
        for (Cond c : state.conds) {
            parts += c.parts.size();
            approved += Integer.bitCount(c.setOf(Part.APPROVED));
        }
        switch (what) {
            case 0: return state.conds.size();
            case 1: return state.day;
            case 2: return parts;
            case 3: return approved;
            case 4: return state.breaches;
            case 5: return state.presumed;
            case 6: return history.size();
            case 7: return text.length();
            case 20: return state.settings[0];
            case 21: return state.settings[1];
            default: throw new Refused(Check.INVALID);
        }
    }

    /** Does the orders on a copy: {how many} without a fault, else {position, reason, cause}. */
    private int[] run() {
        State kept = state;
        state = state.copy();
        try {
            int position = 0;
            int done = 0;
            while (position < text.length()) {
                String rest = text.substring(position);
                Matcher order = ORDER.matcher(rest);
                if (!order.lookingAt()) {
                    return new int[] {position, 1, breaksOff(rest)};
                }
                try {
                    doOrder(order.group());
                } catch (Refused refused) {
                    return new int[] {position, 2, refused.code};
                }
                position += order.end();
                done++;
            }
            return new int[] {done};
        } finally {
            state = kept;
        }
    }

    private void replay() {
        Matcher order = ORDER.matcher(text);
        while (order.find()) {
            doOrder(order.group());
        }
    }

    private void doOrder(String order) {
        int[] numbers = new int[4];
        String[] written = order.substring(1, order.length() - 1).split(",");
        for (int i = 0; i < written.length; i++) {
            numbers[i] = Integer.parseInt(written[i]);
        }
        String[] names = {"condition", "begin", "finish", "apply", "decide", "pass"};
        change(names["cbfadp".indexOf(order.charAt(0))], numbers);
    }

    /** The length of the longest start of a text that some order starts with. */
    private static int breaksOff(String rest) {
        for (int length = rest.length(); length > 0; length--) {
            Matcher start = ORDER.matcher(rest.substring(0, length));
            if (start.matches() || start.hitEnd()) {
                return length;
            }
        }
        return 0;
    }
}
