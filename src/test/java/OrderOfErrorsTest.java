/** Several errors at once: the first one in the order of the document's @return line is told. */
public final class OrderOfErrorsTest {
    private static final int UNKNOWN = ThumpEars.UNKNOWN;
    private static final int BAD_VALUE = ThumpEars.BAD_VALUE;
    private static final int FULL = ThumpEars.FULL;
    private static final int NOT_POSSIBLE = ThumpEars.NOT_POSSIBLE;
    private static final int NONE = ThumpEars.NONE;

    public static void main(String[] args) {
        string();
        sounds(false);
        sounds(true);
        orders();
        ordersThatMeetFull();
        ears();
        knocks();
        texts();
        Answers.end();
    }

    private static void due(String call, long got, long want) {
        Answers.due(call, got, want);
    }

    private static void string() {
        ThumpEars ears = new ThumpEars();
        due("no ear, and bad: setClock(0, 501, 0)", ears.setClock(0, 501, 0), UNKNOWN);
        due("no ear, and so already: setClock(0, 0, 0)", ears.setClock(0, 0, 0), UNKNOWN);
        due("no ear, and so already: mute(0, false)", ears.mute(0, false), UNKNOWN);
        due("no thump, and so already: leaveOut(0, false)", ears.leaveOut(0, false), UNKNOWN);
        ears.bury(0);
        due("no ear, and bad: setClock(1, 0, 51)", ears.setClock(1, 0, 51), UNKNOWN);
        due("no ear, and bad: setClock(-1, 501, 51)", ears.setClock(-1, 501, 51), UNKNOWN);
        due("bad, the drift so already: setClock(0, 501, 0)", ears.setClock(0, 501, 0), BAD_VALUE);
        due("bad, the offset so already: setClock(0, 0, -51)", ears.setClock(0, 0, -51), BAD_VALUE);
        due("both bad: setClock(0, -501, 51)", ears.setClock(0, -501, 51), BAD_VALUE);
        due("both so already: setClock(0, 0, 0)", ears.setClock(0, 0, 0), NONE);
        due("the offset alone so already: setClock(0, 0, 1)", ears.setClock(0, 0, 1), 1);
        due("the drift alone so already: setClock(0, 1, 1)", ears.setClock(0, 1, 1), 1);
        due("both so already: setClock(0, 1, 1)", ears.setClock(0, 1, 1), NONE);
        due("what and value: set(2, 0)", ears.set(2, 0), BAD_VALUE);
        due("what, and the value of the pace: set(2, 3)", ears.set(2, 3), BAD_VALUE);
        due("what, and the value of the tolerance: set(-1, 5)", ears.set(-1, 5), BAD_VALUE);
        due("the tolerance as the pace: set(1, 3)", ears.set(1, 3), 5);
        due("the pace as it is: set(0, 3)", ears.set(0, 3), NONE);
        due("a tolerance that is no pace: set(1, 0)", ears.set(1, 0), 3);
        due("a pace of 0 is bad: set(0, 0)", ears.set(0, 0), BAD_VALUE);
        due("a tolerance of 0 as it is: set(1, 0)", ears.set(1, 0), NONE);
        for (int ear = 1; ear < 10; ear++) {
            due("bury", ears.bury(0), ear);
        }
        due("bad and full: bury(1001)", ears.bury(1001), BAD_VALUE);
        due("bad and full: bury(-1)", ears.bury(-1), BAD_VALUE);
        due("full: bury(0)", ears.bury(0), FULL);
        due("full: bury(1000)", ears.bury(1000), FULL);
    }

    private static int make(ThumpEars ears, boolean knock, int place, int time, int reach) {
        return knock ? ears.knock(place, time, reach) : ears.thump(place, time, reach);
    }

    private static void sounds(boolean knock) {
        String name = knock ? "knock" : "thump";
        ThumpEars ears = new ThumpEars();
        make(ears, knock, 0, 50, 1);
        due(name + ": bad place, too early", make(ears, knock, 1001, 49, 1), BAD_VALUE);
        due(name + ": bad place below 0, too early", make(ears, knock, -1, 49, 1), BAD_VALUE);
        due(name + ": a time below 0 is bad, not too early", make(ears, knock, 0, -1, 1), BAD_VALUE);
        due(name + ": bad reach, too early", make(ears, knock, 0, 49, 0), BAD_VALUE);
        due(name + ": bad reach above, too early", make(ears, knock, 0, 49, 1001), BAD_VALUE);
        due(name + ": too early alone", make(ears, knock, 0, 49, 1), NOT_POSSIBLE);
        for (int i = 1; i < 10; i++) {
            due(name, make(ears, knock, 0, 50, 1), 0);
        }
        due(name + ": bad place, full", make(ears, knock, 1001, 50, 1), BAD_VALUE);
        due(name + ": bad time, full", make(ears, knock, 0, 100001, 1), BAD_VALUE);
        due(name + ": bad reach, full", make(ears, knock, 0, 50, 0), BAD_VALUE);
        due(name + ": bad place, too early, full", make(ears, knock, -1, 49, 1), BAD_VALUE);
        due(name + ": bad reach, too early, full", make(ears, knock, 0, 49, 1001), BAD_VALUE);
        due(name + ": too early, full", make(ears, knock, 0, 49, 1), NOT_POSSIBLE);
        due(name + ": full alone", make(ears, knock, 0, 50, 1), FULL);
        due(name + ": full alone, later", make(ears, knock, 1000, 100000, 1000), FULL);
        due(name + ": the other one is not full", make(ears, !knock, 0, 50, 1), 0);
        due(name + ": the other one moved the time on", make(ears, !knock, 0, 60, 1), 0);
        due(name + ": too early by the other one, full", make(ears, knock, 0, 59, 1), NOT_POSSIBLE);
    }

    private static void orders(String text, int want) {
        ThumpEars ears = new ThumpEars();
        ears.thump(0, 50, 1);
        due("orders of \"" + text + "\"", Answers.orders(ears, text), want);
    }

    private static void orders() {
        orders("t1001@49*0", BAD_VALUE);
        orders("t1001@49", BAD_VALUE);
        orders("t0@49*0", BAD_VALUE);
        orders("t0@100001", BAD_VALUE);
        orders("t0@49", NOT_POSSIBLE);
        // the first order that has an error tells it, whatever those behind it would
        orders("t0@49;k1001@60", NOT_POSSIBLE);
        orders("k1001@60;t0@49", BAD_VALUE);
        orders("k0@60;t0@59;t0@60*0", NOT_POSSIBLE);
        orders("k0@60;t0@60*0;t0@59", BAD_VALUE);
        // a fault goes ahead of all that an order would be told
        orders("t1001@60;", -109);
        orders("t1001@60;k", -110);
        orders("t0@49;k0@60x", -111);
        orders("t0@60;k0@60;t0@60@", -117);
        orders("k999999@999999*999999", BAD_VALUE);
        orders("k999999@999999*9999999", -121);
        orders("k1000@100000*1000", 1);
    }

    private static void ordersThatMeetFull() {
        for (String sign : new String[] {"t", "k"}) {
            ThumpEars ears = new ThumpEars();
            for (int i = 0; i < 9; i++) {
                make(ears, sign.equals("k"), 0, 50, 1);
            }
            String other = sign.equals("t") ? "k" : "t";
            String last = sign + "0@50;";
            due(sign + ": a second one meets full", Answers.orders(ears, last + sign + "0@50"), FULL);
            due(sign + ": full ahead of bad behind it", Answers.orders(ears, last + sign + "0@50;t0@50*0"), FULL);
            due(sign + ": bad and full", Answers.orders(ears, last + sign + "0@50*0"), BAD_VALUE);
            due(sign + ": too early and full", Answers.orders(ears, last + sign + "0@49"), NOT_POSSIBLE);
            due(sign + ": a fault and full", Answers.orders(ears, last + sign + "0@50*"), -112);
            due(sign + ": the last one and others", Answers.orders(ears, last + other + "0@50;" + other + "0@50"), 3);
            due(sign + ": full at once", Answers.orders(ears, other + "0@50;" + sign + "0@50"), FULL);
            due(sign + ": too early and full at once", Answers.orders(ears, sign + "0@49"), NOT_POSSIBLE);
            due(sign + ": the other one", Answers.orders(ears, other + "0@50"), 1);
        }
    }

    private static void ears() {
        ThumpEars ears = new ThumpEars();
        ears.bury(0);
        due("no ear, and bad: ear(1, 7)", ears.ear(1, 7), UNKNOWN);
        due("no ear, and bad: ear(-1, -1)", ears.ear(-1, -1), UNKNOWN);
        due("bad alone: ear(0, 7)", ears.ear(0, 7), BAD_VALUE);
        due("no ear: ear(1, 5)", ears.ear(1, 5), UNKNOWN);
        due("no mark: ear(0, 5)", ears.ear(0, 5), NONE);
        due("no ear, and bad: clock(1, 200001)", ears.clock(1, 200001), UNKNOWN);
        due("no ear, and bad: clock(-1, -1)", ears.clock(-1, -1), UNKNOWN);
        due("no ear, and bad: mark(1, -1, 0)", ears.mark(1, -1, 0), UNKNOWN);
        due("no ear, and bad: mark(1, 0, 3)", ears.mark(1, 0, 3), UNKNOWN);
        due("no ear, no mark: mark(1, 0, 0)", ears.mark(1, 0, 0), UNKNOWN);
        due("no ear, bad, no mark: mark(-1, -1, -1)", ears.mark(-1, -1, -1), UNKNOWN);
        due("both bad: mark(0, -1, 3)", ears.mark(0, -1, 3), BAD_VALUE);
        due("bad, no mark: mark(0, 0, 3)", ears.mark(0, 0, 3), BAD_VALUE);
        due("bad, no mark: mark(0, 10, -1)", ears.mark(0, 10, -1), BAD_VALUE);
        due("no mark: mark(0, 0, 2)", ears.mark(0, 0, 2), NONE);
        ears.thump(0, 0, 1);
        due("bad, behind the last mark: mark(0, 1, 3)", ears.mark(0, 1, 3), BAD_VALUE);
        due("behind the last mark: mark(0, 1, 0)", ears.mark(0, 1, 0), NONE);
        due("no ear, and bad: error(1, 300001)", ears.error(1, 300001), Answers.LONG_UNKNOWN);
        due("no ear, and bad: error(-1, -10001)", ears.error(-1, -10001), Answers.LONG_UNKNOWN);
        due("bad alone: error(0, 300001)", ears.error(0, 300001), Answers.LONG_BAD_VALUE);
    }

    private static void knocks() {
        ThumpEars ears = new ThumpEars();
        ears.bury(0);
        ears.bury(1000);
        // no ear hears the first one, one the second, and both the third
        ears.knock(500, 0, 1);
        ears.knock(0, 0, 1);
        ears.knock(500, 0, 1000);
        due("no knock, no ear: heard(true, 3, 2)", ears.heard(true, 3, 2), UNKNOWN);
        due("no ear: heard(true, 0, 2)", ears.heard(true, 0, 2), UNKNOWN);
        due("no knock: heard(true, 3, 0)", ears.heard(true, 3, 0), UNKNOWN);
        due("no thump: heard(false, 0, 0)", ears.heard(false, 0, 0), UNKNOWN);
        due("not heard: heard(true, 0, 1)", ears.heard(true, 0, 1), NONE);
        due("no knock, no ear: putRight(-1, -1)", ears.putRight(-1, -1), Answers.LONG_UNKNOWN);
        due("no ear: putRight(0, 2)", ears.putRight(0, 2), Answers.LONG_UNKNOWN);
        due("no knock: putRight(3, 0)", ears.putRight(3, 0), Answers.LONG_UNKNOWN);
        due("not heard: putRight(1, 1)", ears.putRight(1, 1), Answers.LONG_NONE);
        for (int knock = 0; knock < 2; knock++) {
            String with = "with " + knock + " hearers: ";
            due(with + "found of what below", ears.found(knock, -1), Answers.LONG_BAD_VALUE);
            due(with + "found of what above", ears.found(knock, 6), Answers.LONG_BAD_VALUE);
            for (int what = 0; what <= 5; what++) {
                due(with + "found", ears.found(knock, what), what == 3 ? knock : Answers.LONG_NOT_POSSIBLE);
            }
            due(with + "spread below", ears.spread(knock, -1), Answers.LONG_BAD_VALUE);
            due(with + "spread above", ears.spread(knock, 1001), Answers.LONG_BAD_VALUE);
            due(with + "spread", ears.spread(knock, 0), Answers.LONG_NOT_POSSIBLE);
            due(with + "truth below", ears.truth(knock, -1), BAD_VALUE);
            due(with + "truth above", ears.truth(knock, 3), BAD_VALUE);
            due(with + "truth of the place", ears.truth(knock, 0), knock == 0 ? 500 : 0);
            due(with + "truth of the time", ears.truth(knock, 1), 0);
            due(with + "truth of the way", ears.truth(knock, 2), NOT_POSSIBLE);
        }
        due("no knock, and bad: found(3, 6)", ears.found(3, 6), Answers.LONG_UNKNOWN);
        due("no knock, and bad: found(-1, -1)", ears.found(-1, -1), Answers.LONG_UNKNOWN);
        due("no knock, and bad: spread(3, 1001)", ears.spread(3, 1001), Answers.LONG_UNKNOWN);
        due("no knock, and bad: spread(-1, -1)", ears.spread(-1, -1), Answers.LONG_UNKNOWN);
        due("no knock, and bad: truth(3, 3)", ears.truth(3, 3), UNKNOWN);
        due("no knock, and bad: truth(-1, -1)", ears.truth(-1, -1), UNKNOWN);
        due("two hearers: found(2, 0)", ears.found(2, 0), 500);
        due("two hearers: spread(2, 500)", ears.spread(2, 500), 0);
        due("two hearers: truth(2, 2)", ears.truth(2, 2), 0);
    }

    private static void texts() {
        ThumpEars ears = new ThumpEars();
        Answers.type(ears, "t0@0;k0@0;t0@0;k0@0;t0@0;k0@0;t0@0;k0@0;t0@0;k0@0;t10@0*1000");
        due("60 characters: count(10)", ears.count(10), 60);
        due("full: type of one that no text has", ears.type('x'), FULL);
        due("full: type of one that could be next", ears.type(';'), FULL);
        due("the 60 characters alone are read: readOrders()", ears.readOrders(), 11);
        due("they are read once more: readOrders()", ears.readOrders(), FULL);
    }
}
