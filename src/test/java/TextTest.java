/** Promises 22 to 25. */
public final class TextTest {
    private static final int FORM = 1;
    private static final int CALL = 2;

    public static void main(String[] args) {
        type();
        clearText();
        noFault();
        faultsOfForm();
        faultsOfCalls();
        faultErrors();
        play();
        playErrors();
        playIsOneChange();
        Check.end();
    }

    private static void type() {
        Check.part("promise 22: type");
        TriggerConditions x = new TriggerConditions();
        int[] bad = {31, 127, 0, -1, 256 + 65, 65536 + 65, Integer.MIN_VALUE, Integer.MAX_VALUE};
        for (int b : bad) {
            Check.due("type(" + b + ")", x.type(b), Check.INVALID);
        }
        Check.due("least", x.type(32), 1);
        Check.due("most", x.type(126), 2);
        for (int i = 3; i <= 80; i++) {
            Check.due("length", x.type('p'), i);
        }
        Check.due("full", x.type('p'), Check.LIMIT);
        Check.due("full, out of range", x.type(31), Check.INVALID);
        Check.due("length", x.count(7), 80);
        Check.due("no change", x.count(6), 0);
    }

    private static void clearText() {
        Check.part("promise 23: clearText");
        TriggerConditions x = new TriggerConditions();
        Check.due("empty", x.clearText(), 0);
        Check.write(x, "p1;p2;x");
        Check.due("the length it had", x.clearText(), 7);
        Check.due("empty", x.clearText(), 0);
        Check.due("length", x.count(7), 0);
        Check.due("no fault", x.fault(0), Check.MISSING);
        Check.write(x, "p1;");
        Check.due("nothing of the old text", x.play(), 1);
        Check.due("no change but play", x.count(6), 1);
    }

    private static void noFault(TriggerConditions x, String text) {
        Check.write(x, text);
        for (int what = 0; what < 3; what++) {
            Check.due("fault(" + what + ") of " + text, x.fault(what), Check.MISSING);
        }
    }

    private static void fault(TriggerConditions x, String text, int position, int reason, int cause) {
        Check.write(x, text);
        Check.due("position in " + text, x.fault(0), position);
        Check.due("reason in " + text, x.fault(1), reason);
        Check.due("cause in " + text, x.fault(2), cause);
    }

    private static void noFault() {
        Check.part("promise 24: texts without a fault");
        TriggerConditions x = new TriggerConditions();
        noFault(x, "");
        noFault(x, "p1;");
        noFault(x, "p400;");
        noFault(x, "p001;p010;");
        noFault(x, "c0,0,0,1;");
        noFault(x, "c002,004,365,006;");
        noFault(x, "b0;f0;b1;b2;f2;");
        noFault(x, "c0,0,0,3;a0,7;d0,5;a0,2;d0,0;a0,002;d0,2;b0;");
        Check.due("nothing is done", Check.look(x), Check.look(new TriggerConditions()));
        Check.due("nothing is recorded", x.count(6), 0);
    }

    private static void faultsOfForm() {
        Check.part("promise 24: reason 1");
        TriggerConditions x = new TriggerConditions();
        fault(x, ";", 0, FORM, 0);
        fault(x, " p1;", 0, FORM, 0);
        fault(x, "P1;", 0, FORM, 0);
        fault(x, "x", 0, FORM, 0);
        fault(x, "1", 0, FORM, 0);
        fault(x, "p", 0, FORM, 1);
        fault(x, "p;", 0, FORM, 1);
        fault(x, "p1", 0, FORM, 2);
        fault(x, "p-1;", 0, FORM, 1);
        fault(x, "p 1;", 0, FORM, 1);
        fault(x, "p1 ;", 0, FORM, 2);
        fault(x, "p1,", 0, FORM, 2);
        fault(x, "p123", 0, FORM, 4);
        fault(x, "p1234;", 0, FORM, 4);
        fault(x, "p0001;", 0, FORM, 4);
        fault(x, "b0,1;", 0, FORM, 2);
        fault(x, "f0:", 0, FORM, 2);
        fault(x, "f/;", 0, FORM, 1);
        fault(x, "f:;", 0, FORM, 1);
        fault(x, "a", 0, FORM, 1);
        fault(x, "a0;", 0, FORM, 2);
        fault(x, "a0,", 0, FORM, 3);
        fault(x, "a0,;", 0, FORM, 3);
        fault(x, "a0,1", 0, FORM, 4);
        fault(x, "a0,1,", 0, FORM, 4);
        fault(x, "d,1;", 0, FORM, 1);
        fault(x, "d100,200", 0, FORM, 8);
        fault(x, "c0,0,0;", 0, FORM, 6);
        fault(x, "c0,0,0,1", 0, FORM, 8);
        fault(x, "c0,0,0,1,", 0, FORM, 8);
        fault(x, "c0,0,,1;", 0, FORM, 5);
        fault(x, "c000,000,000,0000;", 0, FORM, 16);
        fault(x, "p1;;", 3, FORM, 0);
        fault(x, "p1;p22", 3, FORM, 3);
        fault(x, "p1;p22;c1,1,x;p401;", 7, FORM, 5);
        Check.due("nothing is done", x.count(1), 0);
    }

    private static void faultsOfCalls() {
        Check.part("promise 24: reason 2");
        TriggerConditions x = new TriggerConditions();
        fault(x, "p0;", 0, CALL, Check.INVALID);
        fault(x, "p401;", 0, CALL, Check.INVALID);
        fault(x, "p999;", 0, CALL, Check.INVALID);
        fault(x, "b5;", 0, CALL, Check.INVALID);
        fault(x, "b1;", 0, CALL, Check.IMPOSSIBLE);
        fault(x, "f0;", 0, CALL, Check.IMPOSSIBLE);
        fault(x, "f9;", 0, CALL, Check.INVALID);
        fault(x, "a0,1;", 0, CALL, Check.INVALID);
        fault(x, "d0,0;", 0, CALL, Check.INVALID);
        fault(x, "c3,0,0,1;", 0, CALL, Check.INVALID);
        fault(x, "c0,5,0,1;", 0, CALL, Check.INVALID);
        fault(x, "c0,0,366,1;", 0, CALL, Check.INVALID);
        fault(x, "c0,0,0,7;", 0, CALL, Check.INVALID);
        fault(x, "c2,0,0,1;", 0, CALL, Check.INVALID);
        fault(x, "b0;b0;", 3, CALL, Check.IMPOSSIBLE);
        fault(x, "b0;c0,0,0,1;", 3, CALL, Check.IMPOSSIBLE);
        fault(x, "c0,0,0,1;a0,2;", 9, CALL, Check.INVALID);
        fault(x, "c0,0,0,1;a0,0;", 9, CALL, Check.INVALID);
        fault(x, "c2,0,1,1;a0,1;", 9, CALL, Check.IMPOSSIBLE);
        fault(x, "c0,0,0,1;d0,0;", 9, CALL, Check.IMPOSSIBLE);
        fault(x, "c0,0,0,1;a0,1;p56;d0,1;", 18, CALL, Check.IMPOSSIBLE);
        fault(x, "p401;x", 0, CALL, Check.INVALID);
        Check.due("nothing is done", x.count(0), 0);
        for (int i = 0; i < 9; i++) {
            x.condition(0, 0, 0, 1);
        }
        fault(x, "c0,1,0,1;c0,1,0,1;", 9, CALL, Check.LIMIT);
        for (int i = 0; i < 24; i++) {
            x.pass(400);
        }
        fault(x, "p200;p200;", 5, CALL, Check.LIMIT);
        noFault(x, "p200;p199;");
        Check.due("nothing is done", x.count(1), 9600);
    }

    private static void faultErrors() {
        Check.part("promise 24: its errors");
        TriggerConditions x = new TriggerConditions();
        int[] bad = {-1, 3, Integer.MIN_VALUE, Integer.MAX_VALUE};
        for (int b : bad) {
            Check.due("fault(" + b + "), no text", x.fault(b), Check.INVALID);
        }
        Check.write(x, "x");
        for (int b : bad) {
            Check.due("fault(" + b + ")", x.fault(b), Check.INVALID);
        }
    }

    private static void play() {
        Check.part("promise 25: play");
        TriggerConditions x = new TriggerConditions();
        Check.write(x, "c0,0,9,2;c1,0,2,1;c2,0,3,1;a0,3;p2;d0,1;a0,2;b0;f0;p004;");
        Check.due("orders", x.play(), 10);
        TriggerConditions y = new TriggerConditions();
        y.condition(0, 0, 9, 2);
        y.condition(1, 0, 2, 1);
        y.condition(2, 0, 3, 1);
        y.apply(0, 3);
        y.pass(2);
        y.decide(0, 1);
        y.apply(0, 2);
        y.begin(0);
        y.finish(0);
        y.pass(4);
        Check.due("as the calls do", Check.look(x), Check.look(y));
        Check.due("the day", x.count(1), 6);
        Check.due("breaches", x.count(4), 2);
        Check.due("met", x.which(2), 4);
        Check.due("the text stays", x.count(7), 56);
        Check.due("it has a fault now", x.fault(2), Check.IMPOSSIBLE);
        Check.write(x, "p1;");
        Check.due("again", x.play(), 1);
        Check.due("and again", x.play(), 1);
        Check.due("the day", x.count(1), 8);
        TriggerConditions z = new TriggerConditions();
        Check.write(z, "b0;b1;b2;b3;b4;f0;f1;f2;f3;f4;p1;p1;p1;p1;p1;p1;p1;p1;p1;p1;p1;p1;p1;p1;p1;p01;");
        Check.due("a full text", z.count(7), 79);
        Check.due("a full text", z.play(), 26);
        Check.due("the day", z.count(1), 16);
        Check.due("the last stage", z.stageOf(4, 0), 2);
    }

    private static void playErrors() {
        Check.part("promise 25: its errors");
        TriggerConditions x = new TriggerConditions();
        String[] faulty = {"x", "p1", "p1;p401;", "p1;f0;", "c0,0,0,1;a0,1;b0;b0;"};
        for (String text : faulty) {
            Check.write(x, text);
            Check.due("play of " + text, x.play(), Check.IMPOSSIBLE);
            Check.due("nothing is done", x.count(0) + x.count(1) + x.stageOf(0, 0), 0);
            Check.due("nothing is recorded", x.count(6), 0);
            Check.due("the text stays", x.count(7), text.length());
        }
    }

    private static void playIsOneChange() {
        Check.part("promise 25: one change");
        TriggerConditions x = new TriggerConditions();
        Check.due("no orders", x.play(), 0);
        Check.due("one change", x.count(6), 1);
        x.pass(3);
        Check.write(x, "p1;p2;b0;p3;f0;p4;");
        Check.due("orders", x.play(), 6);
        Check.due("one change", x.count(6), 3);
        Check.due("the day", x.count(1), 13);
        Check.due("one undo", x.undo(), 2);
        Check.due("the day", x.count(1), 3);
        Check.due("not begun", x.stageOf(0, 0), 0);
        for (int i = 0; i < 6; i++) {
            x.clearText();
            Check.due("no orders", x.play(), 0);
        }
        Check.due("states", x.count(6), 4);
    }
}
