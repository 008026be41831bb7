/** Promises 9 to 11: orders that are read from a text. */
public final class OrdersTest {
    public static void main(String[] args) {
        promise10And11();
        faults();
        sound();
        refusals();
        fullInTheMiddle();
        oneAct();
        Answers.end();
    }

    private static void due(String call, long got, long want) {
        Answers.due(call, got, want);
    }

    private static void promise10And11() {
        ThumpEars ears = new ThumpEars();
        due("clearText() of the empty text", ears.clearText(), 0);
        for (int i = 1; i <= 60; i++) {
            due("type of sign " + i, ears.type((char) (i * 1000)), i);
        }
        due("type of a 61st", ears.type('t'), ThumpEars.FULL);
        due("count(10)", ears.count(10), 60);
        due("typing is no act", ears.count(9), 0);
        due("clearText()", ears.clearText(), 60);
        due("clearText() again", ears.clearText(), 0);
        due("type", ears.type('t'), 1);
        ears.bury(0);
        due("undo()", ears.undo(), 0);
        due("the text is not undone", ears.count(10), 1);
        ears.keep();
        ears.type('5');
        ears.restore();
        due("the text is not restored", ears.count(10), 2);
    }

    private static void faults() {
        Object[][] rows = {
            {"", 0}, {"t", 1}, {"k", 1}, {"x", 0}, {"T5@1", 0}, {" t5@1", 0}, {"@", 0}, {"5", 0}, {";", 0}, {"*", 0},
            {"t@", 1}, {"tt", 1}, {"t-5@1", 1}, {"t5", 2}, {"t5;", 2}, {"t5*", 2}, {"t5 @1", 2}, {"t5@", 3},
            {"t5@@", 3}, {"t5@;", 3}, {"t5@x", 3}, {"t5@1x", 4}, {"t5@1@", 4}, {"t5@1 ", 4}, {"t5@1k", 4},
            {"t5@1*", 5}, {"t5@1*x", 5}, {"t5@1**", 5}, {"t5@1*;", 5}, {"t5@1*2*", 6}, {"t5@1*2@", 6}, {"t5@1*2t", 6},
            {"t5@1;", 5}, {"t5@1;;", 5}, {"t5@1;x", 5}, {"t5@1*2;", 7}, {"t5@1*2;k", 8}, {"t5@1;5@1", 5},
            {"t00@1", 2}, {"t05@1", 2}, {"t5@00", 4}, {"t5@01", 4}, {"t5@1*01", 6}, {"t5@0*0x", 6},
            {"t1234567@1", 7}, {"t123456", 7}, {"t5@1234567", 9}, {"t5@1*1234567", 11}, {"t5@123456x", 9},
            {"t5@1\u0139", 4}, {"\u0174", 0}, {"t\u0665@1", 1}, {"t/@1", 1}, {"t:@1", 1}, {"t5@1/", 4}, {"t5@1:", 4},
            {"t0@0;t0@0;t0@0;t0@0;t0@0;t0@0;t0@0;t0@0;t0@0;t0@0;t0@0;t0@0;", 60},
            {"t0@0;t0@0;t0@0;t0@0;t0@0;t0@0;t0@0;t0@0;t0@0;t0@0;t0@0;t0@0*", 60},
        };
        for (Object[] row : rows) {
            ThumpEars ears = new ThumpEars();
            String text = (String) row[0];
            due("orders of \"" + text + "\"", Answers.orders(ears, text), -100 - (int) row[1]);
            due("the text stays", ears.count(10), text.length());
            due("no thumps", ears.count(1) + ears.count(2), 0);
            due("no act: count(9)", ears.count(9), 0);
        }
        // behind the fault, no order is looked at, and ahead of it none is done
        due("a fault goes ahead of a refusal", Answers.orders(new ThumpEars(), "t9999@1;x"), -108);
    }

    private static void sound() {
        ThumpEars ears = new ThumpEars();
        ears.bury(0);
        ears.bury(1000);
        due("t1000@0*1000", Answers.orders(ears, "t1000@0*1000"), 1);
        due("heard(false, 0, 0)", ears.heard(false, 0, 0), 13000);
        due("a reach that is not told is 1000", Answers.orders(ears, "k0@7"), 1);
        due("heard(true, 0, 1)", ears.heard(true, 0, 1), 13007);
        due("truth(0, 1)", ears.truth(0, 1), 7);
        due("three", Answers.orders(ears, "k0@8*999;t1000@9*1;k500@100000*500"), 3);
        due("heard(true, 1, 1)", ears.heard(true, 1, 1), ThumpEars.NONE);
        due("heard(true, 1, 0)", ears.heard(true, 1, 0), 10008);
        due("heard(false, 1, 1)", ears.heard(false, 1, 1), 10009);
        due("heard(false, 1, 0)", ears.heard(false, 1, 0), ThumpEars.NONE);
        due("truth(2, 0)", ears.truth(2, 0), 500);
        due("found(2, 3)", ears.found(2, 3), 2);
        due("count(5)", ears.count(5), 100000);
        due("the text stays", ears.count(10), 34);
        due("the reach of the order ahead is forgotten", Answers.orders(ears, "k0@100000*1;k0@100000"), 2);
        due("found(4, 3)", ears.found(4, 3), 2);
    }

    private static void refusals() {
        refusal("a bad place", "t0@60;k1001@70", ThumpEars.BAD_VALUE);
        refusal("a bad time", "t0@60;k0@100001", ThumpEars.BAD_VALUE);
        refusal("a bad reach", "t0@60;k0@70*1001", ThumpEars.BAD_VALUE);
        refusal("the reach 0", "t0@60*0", ThumpEars.BAD_VALUE);
        refusal("too early", "t0@49", ThumpEars.NOT_POSSIBLE);
        refusal("too early behind an order", "t0@60;k0@59", ThumpEars.NOT_POSSIBLE);
        refusal("too early behind a knock", "k0@60;t0@59", ThumpEars.NOT_POSSIBLE);
        refusal("the first refusal counts", "t0@60;k0@59;t1001@70", ThumpEars.NOT_POSSIBLE);
        refusal("bad ahead of early", "t0@60;k0@59*0", ThumpEars.BAD_VALUE);
    }

    private static void refusal(String name, String text, int error) {
        Answers.Run run = ears -> {
            ears.bury(0);
            ears.thump(0, 50, 10);
        };
        Answers.Run refused = run.and(ears -> due(name, Answers.orders(ears, text), error));
        Answers.same(name + ": the state", Answers.stateAfter(refused), Answers.stateAfter(run));
        ThumpEars ears = Answers.after(refused);
        due(name + ": no act: count(9)", ears.count(9), 2);
        due(name + ": the latest time is as before", Answers.orders(ears, "k0@50"), 1);
    }

    private static void fullInTheMiddle() {
        ThumpEars ears = new ThumpEars();
        for (int i = 0; i < 9; i++) {
            ears.thump(0, 0, 1);
        }
        due("full in the middle", Answers.orders(ears, "t0@0;k0@0;t0@0"), ThumpEars.FULL);
        due("early ahead of full", Answers.orders(ears, "t0@1;t0@0"), ThumpEars.NOT_POSSIBLE);
        due("count(1)", ears.count(1), 9);
        due("count(2)", ears.count(2), 0);
        due("just room", Answers.orders(ears, "t0@0;k0@0;k0@0"), 3);
        due("eleven knocks", Answers.orders(ears, "k0@0;k0@0;k0@0;k0@0;k0@0;k0@0;k0@0;k0@0;k0@0"), ThumpEars.FULL);
        due("ten knocks", Answers.orders(ears, "k0@0;k0@0;k0@0;k0@0;k0@0;k0@0;k0@0;k0@0"), 8);
        due("count(1)", ears.count(1), 10);
        due("count(2)", ears.count(2), 10);
        ThumpEars other = new ThumpEars();
        String twelve = "t0@0;t0@0;t0@0;t0@0;t0@0;t0@0;k0@0;k0@0;k0@0;k0@0;k0@0;k0@0";
        due("twelve orders", Answers.orders(other, twelve), 12);
        due("other: count(1)", other.count(1), 6);
        due("other: count(2)", other.count(2), 6);
    }

    private static void oneAct() {
        ThumpEars ears = new ThumpEars();
        due("three", Answers.orders(ears, "t5@10;k7@11*30;k8@11"), 3);
        due("count(9)", ears.count(9), 1);
        due("undo()", ears.undo(), 0);
        due("count(1)", ears.count(1), 0);
        due("count(2)", ears.count(2), 0);
        due("count(5)", ears.count(5), 0);
        due("the text is done again", ears.readOrders(), 3);
        due("the text is done once more", ears.readOrders(), ThumpEars.NOT_POSSIBLE);
    }
}
