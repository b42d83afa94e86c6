import java.util.function.Supplier;

/** The boundary cases of the head "Texts" and of the promises 22 to 25. */
final class TextBounds {
    private static final int FORM = 1;
    private static final int CALL = 2;

    private TextBounds() {
    }

    static void all() {
        eightyCharacters();
        emptyAtFirst();
        ordersAndTheirEnd();
        eachOrder();
        digits();
        position();
        reason();
        causeOfTheForm();
        causeOfTheEnd();
        causeOfTheCall();
        typeAppends();
        typeCharacter();
        typeAnswer();
        typeInvalid();
        typeLimit();
        clearEmpties();
        clearAnswer();
        faultTells();
        faultWhat();
        faultInvalid();
        faultMissing();
        playDoesAll();
        playIsOneChange();
        playAnswer();
        playImpossible();
    }

    /** A permission with a text. */
    private static TriggerConditions typed(String text) {
        TriggerConditions x = new TriggerConditions();
        Check.write(x, text);
        return x;
    }

    private static String times(int count, String part) {
        return part.repeat(count);
    }

    private static void fault(String text, int position, int reason, int cause) {
        fault(typed(text), text, position, reason, cause);
    }

    private static void fault(TriggerConditions x, String text, int position, int reason, int cause) {
        Check.due("position in " + text, x.fault(0), position);
        Check.due("reason in " + text, x.fault(1), reason);
        Check.due("cause in " + text, x.fault(2), cause);
        Check.due("play of " + text, x.play(), Check.IMPOSSIBLE);
    }

    private static void noFault(String text, int orders) {
        TriggerConditions x = typed(text);
        Check.due("fault in " + text, x.fault(0), Check.MISSING);
        Check.due("play of " + text, x.play(), orders);
    }

    private static void eightyCharacters() {
        Check.sentence("Texts", "There is a text of at most 80 characters,");
        TriggerConditions x = typed(times(75 / 3, "p1;"));
        for (char c : "p001;".toCharArray()) {
            x.type(c);
        }
        Check.due("80 characters", x.count(7), 80);
        Check.due("no more", x.type('p'), Check.LIMIT);
        Check.due("the last one counts", x.fault(0), Check.MISSING);
        Check.due("all of its orders", x.play(), 26);
        Check.due("the day", x.count(1), 26);
        fault(times(25, "p1;") + "p0001", 75, FORM, 4);
        fault(times(26, "p1;") + "p1", 78, FORM, 2);
        fault(times(26, "p1;") + "p", 78, FORM, 1);
        fault(times(80, "p"), 0, FORM, 1);
    }

    private static void emptyAtFirst() {
        Check.sentence("Texts", "initially empty:");
        TriggerConditions x = new TriggerConditions();
        Check.due("the length", x.count(7), 0);
        Check.due("clearText", x.clearText(), 0);
        Check.due("no fault", x.fault(0), Check.MISSING);
        Check.due("no orders", x.play(), 0);
        Check.due("the first character", x.type('p'), 1);
    }

    private static void ordersAndTheirEnd() {
        Check.sentence("Texts", "orders, each followed by \";\":");
        noFault("p1;", 1);
        noFault("p1;p1;", 2);
        fault("p1", 0, FORM, 2);
        fault("p1;p1", 3, FORM, 2);
        fault("p1p1;", 0, FORM, 2);
        fault("p1,p1;", 0, FORM, 2);
        fault("p1:", 0, FORM, 2);
        fault(";", 0, FORM, 0);
        fault(";p1;", 0, FORM, 0);
        fault("p1;;", 3, FORM, 0);
        fault("p1; p1;", 3, FORM, 0);
        fault("p1; ", 3, FORM, 0);
    }

    private static void eachOrder() {
        Check.sentence("Texts", "\"c\" a kind, \",\", a stage, \",\", days, \",\", parts (a condition),");
        TriggerConditions c = typed("c2,4,365,6;");
        Check.due("play", c.play(), 1);
        int[] due = {2, 4, 365, 6};
        for (int what = 0; what < 4; what++) {
            Check.due("what " + what, c.conditionOf(0, what), due[what]);
        }
        fault("c2,4,365;", 0, FORM, 8);
        fault("c2,4,365,6,1;", 0, FORM, 10);
        Check.sentence("Texts", "\"b\" a stage (it is begun),");
        Check.due("play", typed("b0;b1;b2;b3;b4;").play(), 5);
        TriggerConditions b = typed("p3;b0;");
        b.play();
        Check.due("begun", b.stageOf(0, 1), 3);
        fault("b0,0;", 0, FORM, 2);
        Check.sentence("Texts", "\"f\" a stage (it is finished),");
        TriggerConditions f = typed("b0;p3;f0;");
        f.play();
        Check.due("finished", f.stageOf(0, 2), 3);
        fault("b0;f0,0;", 3, FORM, 2);
        Check.sentence("Texts", "\"a\" a condition, \",\", a set of parts (they are applied for),");
        TriggerConditions a = typed("c0,0,0,6;a0,33;");
        a.play();
        Check.due("applied for", a.conditionOf(0, 6), 33);
        fault("a0;", 0, FORM, 2);
        fault("a0,1,1;", 0, FORM, 4);
        Check.sentence("Texts", "\"d\" a condition, \",\", a set of parts (they are approved of those that are applied for),");
        TriggerConditions d = typed("c0,0,0,6;a0,33;d0,32;");
        d.play();
        Check.due("approved", d.conditionOf(0, 5), 32);
        Check.due("the other one is open", d.conditionOf(0, 6), 0);
        noFault("c0,0,0,6;a0,33;d0,0;", 3);
        fault("c0,0,0,6;a0,33;d0,34;", 15, CALL, Check.IMPOSSIBLE);
        Check.sentence("Texts", "or \"p\" days (they pass);");
        Check.due("the day", playedDay("p1;p400;"), 401);
        fault("p1,1;", 0, FORM, 2);
        fault("p;", 0, FORM, 1);
    }

    private static int playedDay(String text) {
        TriggerConditions x = typed(text);
        x.play();
        return x.count(1);
    }

    private static void digits() {
        Check.sentence("Texts", "numbers of 1 to 3 digits, 0 ahead allowed.");
        Check.due("1 digit", playedDay("p7;"), 7);
        Check.due("2 digits", playedDay("p17;"), 17);
        Check.due("3 digits", playedDay("p317;"), 317);
        Check.due("0 ahead", playedDay("p07;"), 7);
        Check.due("two 0 ahead", playedDay("p007;"), 7);
        Check.due("0 ahead is no other base", playedDay("p010;p09;"), 19);
        for (int digit = 1; digit <= 9; digit++) {
            Check.due("each digit", playedDay("p" + digit + ";"), digit);
        }
        noFault("c000,000,000,001;b000;f000;", 3);
        fault("p;", 0, FORM, 1);
        fault("p0000;", 0, FORM, 4);
        fault("p0001;", 0, FORM, 4);
        fault("p1000;", 0, FORM, 4);
        fault("c0,0,0,;", 0, FORM, 7);
        fault("c,0,0,1;", 0, FORM, 1);
        fault("c0,0,0,0001;", 0, FORM, 10);
        fault("p-1;", 0, FORM, 1);
        fault("p+1;", 0, FORM, 1);
        fault("p/;", 0, FORM, 1);
        fault("p:;", 0, FORM, 1);
        fault("p1 ;", 0, FORM, 2);
        fault("p000;", 0, CALL, Check.INVALID);
        fault("p999;", 0, CALL, Check.INVALID);
    }

    private static void position() {
        Check.sentence("Texts", "The fault of the text is the position, from 0, of the first character of the first order that is "
            + "not possible;");
        fault("x", 0, FORM, 0);
        fault("p1;x", 3, FORM, 0);
        fault("p1;p12;x", 7, FORM, 0);
        fault("p1;b1;x", 3, CALL, Check.IMPOSSIBLE);
        fault("p1;x;b1;", 3, FORM, 0);
        fault("b0;b0;b0;", 3, CALL, Check.IMPOSSIBLE);
        fault(times(25, "p1;") + "p1;p1", 78, FORM, 2);
        fault(times(26, "p1;") + "x", 78, FORM, 0);
        fault(times(25, "p1;") + "p401;", 75, CALL, Check.INVALID);
    }

    private static void reason() {
        Check.sentence("Texts", "its reason is 1 if it is not of this form, its \";\" included, and otherwise 2, "
            + "when those ahead of it are done;");
        fault("p401", 0, FORM, 4);
        fault("p401;", 0, CALL, Check.INVALID);
        fault("b1", 0, FORM, 2);
        fault("b1;", 0, CALL, Check.IMPOSSIBLE);
        noFault("b0;b1;", 2);
        fault("b0;b2;b1;", 3, CALL, Check.IMPOSSIBLE);
        noFault("c0,0,0,1;a0,1;p56;b0;", 4);
        fault("c0,0,0,1;a0,1;p56;d0,1;", 18, CALL, Check.IMPOSSIBLE);
        noFault("c0,0,0,1;a0,1;p55;d0,1;", 4);
        TriggerConditions x = Make.aheadInBreach();
        Check.write(x, "c0,1,0,1;b0;");
        fault(x, "begun ahead of the text", 9, CALL, Check.IMPOSSIBLE);
    }

    private static void causeOfTheForm() {
        Check.sentence("Texts", "its cause is with the reason 1 at which character of the order, from 0, it breaks off");
        String order = "c012,034,056,078;";
        for (int place = 0; place < order.length(); place++) {
            String wrong = order.substring(0, place) + "x" + order.substring(place + 1);
            fault(wrong, 0, FORM, place);
            Check.due("behind another order", typed("b0;" + wrong).fault(0), 3);
            Check.due("from the start of the order", typed("b0;" + wrong).fault(2), place);
        }
        for (String start : new String[] {"b", "f", "p"}) {
            fault(start + "x", 0, FORM, 1);
            fault(start + "1x", 0, FORM, 2);
            fault(start + "12x", 0, FORM, 3);
            fault(start + "123x", 0, FORM, 4);
            fault(start + "1234;", 0, FORM, 4);
            fault(start + "1,", 0, FORM, 2);
        }
        for (String start : new String[] {"a", "d"}) {
            fault(start + ",1;", 0, FORM, 1);
            fault(start + "1;", 0, FORM, 2);
            fault(start + "1,;", 0, FORM, 3);
            fault(start + "1,,", 0, FORM, 3);
            fault(start + "123,456,", 0, FORM, 8);
            fault(start + "123,4567;", 0, FORM, 8);
        }
        for (char letter = 32; letter <= 126; letter++) {
            if ("cbfadp".indexOf(letter) < 0) {
                fault(letter + "0;", 0, FORM, 0);
            }
        }
    }

    private static void causeOfTheEnd() {
        Check.sentence("Texts", "(of one that the text ends too early it is its length),");
        String[] orders = {"c012,034,056,078;", "c1,2,3,4;", "a1,22;", "d333,4;", "b12;", "f123;", "p1;"};
        for (String order : orders) {
            for (int length = 1; length < order.length(); length++) {
                fault(order.substring(0, length), 0, FORM, length);
                Check.due("behind another order", typed("b0;" + order.substring(0, length)).fault(0), 3);
                Check.due("of the order alone", typed("b0;" + order.substring(0, length)).fault(2), length);
            }
        }
    }

    private static void causeOfTheCall() {
        Check.sentence("Texts", "and with the reason 2 the error code that the call returns for it.");
        fault("c3,0,0,1;", 0, CALL, Check.INVALID);
        fault("c0,5,0,1;", 0, CALL, Check.INVALID);
        fault("c0,0,366,1;", 0, CALL, Check.INVALID);
        fault("c2,0,0,1;", 0, CALL, Check.INVALID);
        fault("c0,0,0,0;", 0, CALL, Check.INVALID);
        fault("c0,0,0,7;", 0, CALL, Check.INVALID);
        fault("b0;c0,0,0,1;", 3, CALL, Check.IMPOSSIBLE);
        fault("b5;", 0, CALL, Check.INVALID);
        fault("b1;", 0, CALL, Check.IMPOSSIBLE);
        fault("f5;", 0, CALL, Check.INVALID);
        fault("f0;", 0, CALL, Check.IMPOSSIBLE);
        fault("a0,1;", 0, CALL, Check.INVALID);
        fault("c2,0,1,1;a0,1;", 9, CALL, Check.IMPOSSIBLE);
        fault("c0,0,0,1;a0,0;", 9, CALL, Check.INVALID);
        fault("c0,0,0,1;a0,2;", 9, CALL, Check.INVALID);
        fault("d0,0;", 0, CALL, Check.INVALID);
        fault("c0,0,0,1;d0,0;", 9, CALL, Check.IMPOSSIBLE);
        fault("c0,0,0,1;d0,2;", 9, CALL, Check.INVALID);
        fault("p0;", 0, CALL, Check.INVALID);
        fault("p401;", 0, CALL, Check.INVALID);
        TriggerConditions ten = Make.ten(0, 0, 0, 1);
        Check.write(ten, "c0,0,0,1;");
        fault(ten, "an eleventh condition", 0, CALL, Check.LIMIT);
        TriggerConditions last = Make.onDay(9598);
        Check.write(last, "p400;p1;p1;");
        fault(last, "the day 10000", 8, CALL, Check.LIMIT);
    }

    private static void typeAppends() {
        Check.sentence("Promise 22", "Appends a character to the text.");
        TriggerConditions x = typed("p1");
        Check.due("not whole", x.fault(1), 1);
        x.type(';');
        Check.due("at the end", x.fault(1), Check.MISSING);
        x.type('p');
        Check.due("at the end", x.fault(0), 3);
        Check.due("no change", x.count(6), 0);
    }

    private static void typeCharacter() {
        Check.sentence("Promise 22", "character: 32 to 126");
        for (int character = 32; character <= 126; character++) {
            Check.due("type(" + character + ")", new TriggerConditions().type(character), 1);
        }
        Check.due("below", new TriggerConditions().type(31), Check.INVALID);
        Check.due("above", new TriggerConditions().type(127), Check.INVALID);
    }

    private static void typeAnswer() {
        Check.sentence("Promise 22", "Returns the length of the text;");
        TriggerConditions x = new TriggerConditions();
        for (int length = 1; length <= 80; length++) {
            Check.due("the length", x.type(32 + length), length);
        }
        x.clearText();
        Check.due("of the text now", x.type(32), 1);
    }

    private static void typeInvalid() {
        Check.sentence("Promise 22", "INVALID_ARGUMENT if character is out of range;");
        for (int far : Make.FAR) {
            Check.still("type(" + far + ")", () -> typed("p1"), x -> x.type(far), Check.INVALID);
        }
        for (int beside : new int[] {-1, 0, 9, 10, 31, 127, 128, 255, 256 + ';', 65536 + ';', -65536 + ';', -128}) {
            Check.still("type(" + beside + ")", () -> typed("p1"), x -> x.type(beside), Check.INVALID);
            Check.still("full, type(" + beside + ")", () -> typed(times(80, "p")), x -> x.type(beside), Check.INVALID);
        }
    }

    private static void typeLimit() {
        Check.sentence("Promise 22", "LIMIT_REACHED if it has 80 characters.");
        TriggerConditions x = typed(times(79, "p"));
        Check.due("79", x.count(7), 79);
        Check.due("the last one", x.type('p'), 80);
        Check.due("one more", x.type('p'), Check.LIMIT);
        Check.still("and no change", () -> typed(times(16, "p400;")), y -> y.type('x'), Check.LIMIT);
    }

    private static void clearEmpties() {
        Check.sentence("Promise 23", "Empties the text.");
        for (int length : new int[] {0, 1, 79, 80}) {
            TriggerConditions x = typed(times(length, "x"));
            x.pass(1);
            x.clearText();
            Check.due("the length", x.count(7), 0);
            Check.due("no fault", x.fault(0), Check.MISSING);
            Check.due("no change", x.count(6), 1);
            Check.due("no orders", x.play(), 0);
            Check.due("from the start again", x.type('p') + x.type('3') + x.type(';'), 6);
            Check.due("nothing of the old one", x.play(), 1);
            Check.due("the day", x.count(1), 4);
        }
    }

    private static void clearAnswer() {
        Check.sentence("Promise 23", "Returns the length it had.");
        for (int length = 0; length <= 80; length++) {
            TriggerConditions x = typed(times(length, "p"));
            Check.due("the length", x.clearText(), length);
            Check.due("none", x.clearText(), 0);
        }
        TriggerConditions full = typed(times(80, "p"));
        full.type('p');
        Check.due("not above 80", full.clearText(), 80);
    }

    private static void faultTells() {
        Check.sentence("Promise 24", "Tells about the fault of the text.");
        Supplier<TriggerConditions> made = () -> {
            TriggerConditions x = Make.aheadInBreach();
            Check.write(x, "p3;f0;a0,3;p9;b2;");
            return x;
        };
        int[] due = {14, CALL, Check.IMPOSSIBLE};
        for (int what = 0; what < 3; what++) {
            int any = what;
            Check.still("fault(" + what + ") and no change", made, x -> x.fault(any), due[what]);
        }
    }

    private static void faultWhat() {
        Check.sentence("Promise 24", "what: 0: its position; 1: its reason; 2: its cause");
        TriggerConditions x = typed("p1;p12");
        Check.due("position", x.fault(0), 3);
        Check.due("reason", x.fault(1), 1);
        Check.due("cause", x.fault(2), 3);
        Check.due("below", x.fault(-1), Check.INVALID);
        Check.due("above", x.fault(3), Check.INVALID);
        Check.sentence("Promise 24", "Returns that;");
        fault("x", 0, FORM, 0);
        fault(times(79, " ") + "x", 0, FORM, 0);
        fault("p401;", 0, CALL, -1000001);
    }

    private static void faultInvalid() {
        Check.sentence("Promise 24", "INVALID_ARGUMENT if what is out of range;");
        for (String text : new String[] {"", "p1;", "x", "p401;"}) {
            for (int beside : new int[] {-1, 3}) {
                Check.still("fault(" + beside + ") of " + text, () -> typed(text), x -> x.fault(beside), Check.INVALID);
            }
            for (int far : Make.FAR) {
                Check.still("fault(" + far + ") of " + text, () -> typed(text), x -> x.fault(far), Check.INVALID);
            }
        }
    }

    private static void faultMissing() {
        Check.sentence("Promise 24", "NOT_FOUND if the text has no fault (also if it is empty).");
        for (String text : new String[] {"", "p1;", "b0;f0;", times(16, "p400;"), "c0,0,0,1;"}) {
            for (int what = 0; what < 3; what++) {
                int any = what;
                Check.still("fault(" + what + ") of " + text, () -> typed(text), x -> x.fault(any), Check.MISSING);
            }
        }
        TriggerConditions x = typed("x");
        x.clearText();
        Check.due("emptied", x.fault(0), Check.MISSING);
        Check.write(x, "b0;");
        Check.due("possible now", x.fault(0), Check.MISSING);
        x.begin(0);
        Check.due("not possible now", x.fault(0), 0);
        x.undo();
        Check.due("possible again", x.fault(0), Check.MISSING);
    }

    private static void playDoesAll() {
        Check.sentence("Promise 25", "Does all orders of the text, which stays.");
        TriggerConditions x = typed("c0,0,9,2;c1,0,2,1;a0,3;p2;d0,1;b0;p4;f0;");
        Check.due("how many", x.play(), 8);
        TriggerConditions y = new TriggerConditions();
        y.condition(0, 0, 9, 2);
        y.condition(1, 0, 2, 1);
        y.apply(0, 3);
        y.pass(2);
        y.decide(0, 1);
        y.begin(0);
        y.pass(4);
        y.finish(0);
        Check.due("as the calls do", Check.look(x), Check.look(y));
        Check.due("the text stays", x.count(7), 40);
        TriggerConditions late = Make.overdue(3);
        TriggerConditions same = Make.overdue(3);
        for (TriggerConditions each : new TriggerConditions[] {late, same}) {
            each.condition(2, 1, 99, 1);
            each.begin(1);
            each.finish(1);
            each.lapse(1);
            each.serve(1, 50);
        }
        Check.write(late, "p2;a0,2;p3;");
        late.play();
        same.pass(2);
        same.apply(0, 2);
        same.pass(3);
        Check.due("with notices, as the calls do", Check.look(late), Check.look(same));
        Check.due("overdue", late.conditionOf(0, 11), 8);
        Check.due("days left", late.conditionOf(1, 10), 45);
        TriggerConditions z = typed("p5;");
        z.play();
        z.play();
        Check.due("it can be played again", z.count(1), 10);
        Check.due("the text stays", z.clearText(), 3);
    }

    private static void playIsOneChange() {
        Check.sentence("Promise 25", "They are one change, also if there are none.");
        TriggerConditions x = typed("");
        Check.due("none", x.play(), 0);
        Check.due("one change", x.count(6), 1);
        Check.due("one undo", x.undo(), 0);
        TriggerConditions y = typed(times(26, "p1;"));
        y.begin(0);
        y.play();
        Check.due("one change", y.count(6), 2);
        Check.due("the day", y.count(1), 26);
        y.undo();
        Check.due("the day ahead of it", y.count(1), 0);
        Check.due("the change ahead of it stays", y.stageOf(0, 0), 1);
        TriggerConditions z = typed("");
        z.pass(7);
        for (int i = 0; i < 4; i++) {
            z.play();
        }
        Check.due("plays of nothing drop older states", z.count(6), 4);
        for (int i = 0; i < 4; i++) {
            z.undo();
        }
        Check.due("plays of nothing drop older states", z.count(1), 7);
    }

    private static void playAnswer() {
        Check.sentence("Promise 25", "Returns how many there are in it;");
        for (int orders = 0; orders <= 26; orders++) {
            Check.due("orders", typed(times(orders, "p1;")).play(), orders);
        }
    }

    private static void playImpossible() {
        Check.sentence("Promise 25", "NOT_POSSIBLE if it has a fault.");
        String[] faulty = {"x", "p1", "p1;x", "p401;", "p1;p0;", "b0;b0;", "c0,0,0,1;a0,1;d0,2;", times(26, "p1;") + "p1"};
        for (String text : faulty) {
            Check.still("play of " + text, () -> typed(text), TriggerConditions::play, Check.IMPOSSIBLE);
        }
        Check.still("an error of the limit", () -> {
            TriggerConditions x = Make.onDay(9999);
            Check.write(x, "b0;p1;");
            return x;
        }, TriggerConditions::play, Check.IMPOSSIBLE);
    }
}
