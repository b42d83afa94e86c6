import java.util.ArrayList;
import java.util.List;
import java.util.Random;

/** All promises: long runs of calls drawn from fixed seeds, each answer against that of Model. */
public final class RandomRunsTest {
    private static final int RUNS = 1500;
    private static final int CALLS = 512;

    private static Random random;

    public static void main(String[] args) {
        Check.part("all promises: runs of calls against a second reading of the document");
        for (int run = 0; run < RUNS; run++) {
            random = new Random(run);
            play(run);
        }
        Check.end();
    }

    private static void play(int run) {
        TriggerConditions x = new TriggerConditions();
        Model model = new Model();
        List<String> typed = new ArrayList<>();
        boolean texts = run % 3 == 0;
        int daysMost = new int[] {3, 20, 400}[run % 7 % 3];
        for (int call = 0; call < CALLS; call++) {
            if (typed.isEmpty() && texts && random.nextInt(12) == 0) {
                type(typed, daysMost);
            }
            String name;
            long[] a;
            if (!typed.isEmpty()) {
                String next = typed.remove(0);
                name = next.length() > 1 ? next : "type";
                a = new long[] {next.length() > 1 ? random.nextInt(3) : next.charAt(0)};
            } else {
                name = draw();
                a = arguments(name, daysMost);
            }
            long want = model.call(name, a);
            long got = answer(x, name, a);
            StringBuilder told = new StringBuilder("run " + run + " call " + call + " " + name);
            for (long number : a) {
                told.append(' ').append(number);
            }
            Check.due(told.toString(), got, want);
            if (got != want) {
                return;
            }
        }
    }

    private static String draw() {
        String[] names = {"condition", "condition", "begin", "finish", "apply", "apply", "apply", "decide", "decide", "lapse",
            "cure", "serve", "serve", "vary", "vary", "pass", "pass", "pass", "set", "conditionOf", "conditionOf",
            "conditionOf", "conditionOf", "stageOf", "stageOf", "which", "which", "when", "when", "lawful", "fine", "share",
            "count", "count", "undo", "type", "clearText", "fault", "play"};
        String name = names[random.nextInt(names.length)];
        // stages are begun seldom, or there would soon be none to which conditions can be added
        return (name.equals("begin") || name.equals("finish")) && random.nextInt(3) > 0 ? "conditionOf" : name;
    }

    /** Mostly a number of the range, now and then one beside it, seldom any. */
    private static int near(int least, int most) {
        int dice = random.nextInt(60);
        if (dice == 0) {
            return random.nextInt();
        }
        if (dice == 1) {
            return most + 1;
        }
        if (dice == 2) {
            return least - 1;
        }
        return least + random.nextInt(most - least + 1);
    }

    private static int smallDays(int least, int most) {
        return random.nextInt(4) == 0 ? near(least, most) : near(least, Math.min(most, 12));
    }

    private static long[] arguments(String name, int daysMost) {
        int c = near(0, random.nextBoolean() ? 3 : 9);
        int set = random.nextBoolean() ? near(0, 7) : near(0, 63);
        switch (name) {
            case "condition": return new long[] {near(0, 2), near(0, 4), smallDays(0, 365), near(1, 6)};
            case "begin":
            case "finish":
            case "lawful": return new long[] {near(0, 4)};
            case "apply":
            case "decide": return new long[] {c, set};
            case "lapse":
            case "cure": return new long[] {c};
            case "serve": return new long[] {c, smallDays(1, 99)};
            case "vary": return vary(c);
            case "pass": return new long[] {near(1, daysMost)};
            case "set":
                int what = near(0, 1);
                return new long[] {what, random.nextBoolean() ? near(0, 20) : near(0, what == 0 ? 99 : 365)};
            case "conditionOf": return new long[] {c, near(0, 11)};
            case "stageOf": return new long[] {near(0, 4), near(0, 3)};
            case "which": return new long[] {near(0, 4)};
            case "when": return new long[] {c, near(0, 4)};
            case "fine": return new long[] {c, rate()};
            case "count": return new long[] {random.nextInt(4) == 0 ? near(20, 21) : near(0, 7)};
            case "type": return new long[] {near(32, 126)};
            case "fault": return new long[] {near(0, 2)};
            default: return new long[0];
        }
    }

    private static long[] vary(int c) {
        int what = near(0, 2);
        int value = what == 0 ? smallDays(0, 365) : what == 1 ? near(1, 6) : near(0, 4);
        return new long[] {c, what, value};
    }

    private static long rate() {
        switch (random.nextInt(5)) {
            case 0: return random.nextLong();
            case 1: return 1000000000000000L + random.nextInt(2);
            case 2: return random.nextInt(3);
            default: return Math.floorMod(random.nextLong(), 1000000000000000L) + 1;
        }
    }

    /** Orders that are mostly possible, perhaps with one character put wrong, and calls that look at them. */
    private static void type(List<String> typed, int daysMost) {
        StringBuilder text = new StringBuilder();
        int orders = 1 + random.nextInt(6);
        for (int i = 0; i < orders; i++) {
            String[] names = {"condition", "begin", "finish", "apply", "decide", "pass"};
            int which = random.nextInt(6);
            text.append("cbfadp".charAt(which));
            long[] a = arguments(names[which], daysMost);
            for (int k = 0; k < a.length; k++) {
                String number = String.valueOf(Math.abs(a[k]) % 1000);
                text.append(k > 0 ? "," : "").append(random.nextInt(9) == 0 && number.length() < 3 ? "0" : "").append(number);
            }
            text.append(';');
        }
        if (random.nextInt(3) == 0) {
            int place = random.nextInt(text.length());
            char wrong = "0123456789,;cbfadpx ".charAt(random.nextInt(20));
            switch (random.nextInt(3)) {
                case 0: text.setCharAt(place, wrong); break;
                case 1: text.insert(place, wrong); break;
                default: text.deleteCharAt(place); break;
            }
        }
        if (random.nextInt(4) > 0) {
            typed.add("clearText");
        }
        for (int i = 0; i < text.length(); i++) {
            typed.add(text.substring(i, i + 1));
        }
        typed.add("fault");
        typed.add("fault");
        typed.add("play");
    }

    private static long answer(TriggerConditions x, String name, long[] numbers) {
        int[] a = new int[4];
        for (int i = 0; i < numbers.length; i++) {
            a[i] = (int) numbers[i];
        }
        switch (name) {
            case "condition": return x.condition(a[0], a[1], a[2], a[3]);
            case "begin": return x.begin(a[0]);
            case "finish": return x.finish(a[0]);
            case "apply": return x.apply(a[0], a[1]);
            case "decide": return x.decide(a[0], a[1]);
            case "lapse": return x.lapse(a[0]);
            case "cure": return x.cure(a[0]);
            case "serve": return x.serve(a[0], a[1]);
            case "vary": return x.vary(a[0], a[1], a[2]);
            case "pass": return x.pass(a[0]);
            case "set": return x.set(a[0], a[1]);
            case "conditionOf": return x.conditionOf(a[0], a[1]);
            case "stageOf": return x.stageOf(a[0], a[1]);
            case "which": return x.which(a[0]);
            case "when": return x.when(a[0], a[1]);
            case "lawful": return x.lawful(a[0]);
            case "fine": return x.fine(a[0], numbers[1]);
            case "share": return x.share();
            case "count": return x.count(a[0]);
            case "undo": return x.undo();
            case "type": return x.type(a[0]);
            case "clearText": return x.clearText();
            case "fault": return x.fault(a[0]);
            case "play": return x.play();
            default: throw new IllegalArgumentException(name);
        }
    }
}
