/** A call that returns an error or NONE changes nothing, and neither does one that only asks. */
public final class UnchangedTest {
    /** A call, and what it answers. */
    private interface Call {
        long on(ThumpEars ears);
    }

    /** A run, and all that is told behind it. */
    private record Base(String name, Answers.Run run, String told) {
    }

    public static void main(String[] args) {
        newObject();
        string(base("used", UnchangedTest::use));
        sounds(base("used", UnchangedTest::use));
        questions(base("used", UnchangedTest::use));
        noRoom();
        texts();
        Answers.end();
    }

    /** Leaves a string that has something of all: a full history, a snapshot of another state, and a text. */
    private static void use(ThumpEars ears) {
        ears.bury(100);
        ears.bury(900);
        ears.bury(450);
        ears.setClock(0, 70, 30);
        ears.thump(300, 1000, 1000);
        ears.thump(600, 9000, 500);
        ears.keep();
        ears.knock(500, 9500, 1000);
        ears.mute(1, true);
        ears.knock(100, 9600, 10);
        ears.leaveOut(1, true);
        ears.set(0, 5);
        ears.set(1, 20);
        Answers.type(ears, "t5@70000*800;k7@80000");
    }

    private static Base base(String name, Answers.Run run) {
        return new Base(name, run, allAfter(run));
    }

    /** The state, those of the history, that of the snapshot, and what the text does. */
    private static String allAfter(Answers.Run run) {
        StringBuilder told = new StringBuilder();
        ThumpEars counts = Answers.after(run);
        told.append(counts.count(9)).append(' ').append(counts.count(10)).append(' ');
        Answers.Run back = run;
        told.append(Answers.stateAfter(back));
        for (int i = 0; i < 5; i++) {
            told.append(Answers.after(back).undo()).append(' ');
            back = back.and(ears -> ears.undo());
            told.append(Answers.stateAfter(back));
        }
        told.append(Answers.after(run).restore()).append(' ');
        told.append(Answers.stateAfter(run.and(ears -> ears.restore())));
        told.append(Answers.after(run).readOrders()).append(' ');
        told.append(Answers.stateAfter(run.and(ears -> ears.readOrders())));
        return told.toString();
    }

    private static void refused(Base base, String name, Call call, long want) {
        String where = base.name + ": " + name;
        Answers.Run run = base.run.and(ears -> Answers.due(where, call.on(ears), want));
        Answers.same(where + ": what is told then", allAfter(run), base.told);
    }

    private static void asked(Base base, String name, Call call) {
        refused(base, name, call, call.on(Answers.after(base.run)));
    }

    private static void newObject() {
        Base base = base("new", ears -> { });
        refused(base, "undo()", ears -> ears.undo(), ThumpEars.NONE);
        refused(base, "restore()", ears -> ears.restore(), ThumpEars.NONE);
        refused(base, "stalest()", ears -> ears.stalest(), ThumpEars.NONE);
        refused(base, "readOrders()", ears -> ears.readOrders(), -100);
        refused(base, "clearText()", ears -> ears.clearText(), 0);
        refused(base, "setClock(0, 1, 1)", ears -> ears.setClock(0, 1, 1), ThumpEars.UNKNOWN);
        refused(base, "mute(0, true)", ears -> ears.mute(0, true), ThumpEars.UNKNOWN);
        refused(base, "leaveOut(0, true)", ears -> ears.leaveOut(0, true), ThumpEars.UNKNOWN);
        refused(base, "set(0, 3)", ears -> ears.set(0, 3), ThumpEars.NONE);
        refused(base, "set(1, 5)", ears -> ears.set(1, 5), ThumpEars.NONE);
        refused(base, "bury(1001)", ears -> ears.bury(1001), ThumpEars.BAD_VALUE);
        refused(base, "thump(0, 0, 0)", ears -> ears.thump(0, 0, 0), ThumpEars.BAD_VALUE);
        refused(base, "knock(0, 0, 0)", ears -> ears.knock(0, 0, 0), ThumpEars.BAD_VALUE);
    }

    private static void string(Base base) {
        refused(base, "bury(-1)", ears -> ears.bury(-1), ThumpEars.BAD_VALUE);
        refused(base, "bury(1001)", ears -> ears.bury(1001), ThumpEars.BAD_VALUE);
        refused(base, "setClock(3, 1, 1)", ears -> ears.setClock(3, 1, 1), ThumpEars.UNKNOWN);
        refused(base, "setClock(1, 501, 1)", ears -> ears.setClock(1, 501, 1), ThumpEars.BAD_VALUE);
        refused(base, "setClock(1, 1, -51)", ears -> ears.setClock(1, 1, -51), ThumpEars.BAD_VALUE);
        refused(base, "setClock(0, 70, 30)", ears -> ears.setClock(0, 70, 30), ThumpEars.NONE);
        refused(base, "mute(3, true)", ears -> ears.mute(3, true), ThumpEars.UNKNOWN);
        refused(base, "mute(1, true)", ears -> ears.mute(1, true), ThumpEars.NONE);
        refused(base, "mute(2, false)", ears -> ears.mute(2, false), ThumpEars.NONE);
        refused(base, "set(2, 1)", ears -> ears.set(2, 1), ThumpEars.BAD_VALUE);
        refused(base, "set(0, 21)", ears -> ears.set(0, 21), ThumpEars.BAD_VALUE);
        refused(base, "set(0, 0)", ears -> ears.set(0, 0), ThumpEars.BAD_VALUE);
        refused(base, "set(0, 5)", ears -> ears.set(0, 5), ThumpEars.NONE);
        refused(base, "set(1, 501)", ears -> ears.set(1, 501), ThumpEars.BAD_VALUE);
        refused(base, "set(1, -1)", ears -> ears.set(1, -1), ThumpEars.BAD_VALUE);
        refused(base, "set(1, 20)", ears -> ears.set(1, 20), ThumpEars.NONE);
    }

    private static void sounds(Base base) {
        refused(base, "thump(1001, 9700, 5)", ears -> ears.thump(1001, 9700, 5), ThumpEars.BAD_VALUE);
        refused(base, "thump(5, 100001, 5)", ears -> ears.thump(5, 100001, 5), ThumpEars.BAD_VALUE);
        refused(base, "thump(5, 9700, 0)", ears -> ears.thump(5, 9700, 0), ThumpEars.BAD_VALUE);
        refused(base, "thump(5, 9599, 5)", ears -> ears.thump(5, 9599, 5), ThumpEars.NOT_POSSIBLE);
        refused(base, "knock(1001, 9700, 5)", ears -> ears.knock(1001, 9700, 5), ThumpEars.BAD_VALUE);
        refused(base, "knock(5, 100001, 5)", ears -> ears.knock(5, 100001, 5), ThumpEars.BAD_VALUE);
        refused(base, "knock(5, 9700, 0)", ears -> ears.knock(5, 9700, 0), ThumpEars.BAD_VALUE);
        refused(base, "knock(5, 9599, 5)", ears -> ears.knock(5, 9599, 5), ThumpEars.NOT_POSSIBLE);
        refused(base, "leaveOut(2, true)", ears -> ears.leaveOut(2, true), ThumpEars.UNKNOWN);
        refused(base, "leaveOut(1, true)", ears -> ears.leaveOut(1, true), ThumpEars.NONE);
        refused(base, "leaveOut(0, false)", ears -> ears.leaveOut(0, false), ThumpEars.NONE);
    }

    private static void questions(Base base) {
        for (int i = -1; i <= 11; i++) {
            int a = i;
            asked(base, "ear(0, " + a + ")", ears -> ears.ear(0, a));
            asked(base, "ear(" + a + ", 5)", ears -> ears.ear(a, 5));
            asked(base, "found(0, " + a + ")", ears -> ears.found(0, a));
            asked(base, "found(" + a + ", 0)", ears -> ears.found(a, 0));
            asked(base, "count(" + a + ")", ears -> ears.count(a));
        }
        for (int i = -1; i <= 3; i++) {
            int a = i;
            asked(base, "mark(2, " + a + ", 0)", ears -> ears.mark(2, a, 0));
            asked(base, "mark(2, 0, " + a + ")", ears -> ears.mark(2, 0, a));
            asked(base, "heard(false, " + a + ", 1)", ears -> ears.heard(false, a, 1));
            asked(base, "heard(true, 1, " + a + ")", ears -> ears.heard(true, 1, a));
            asked(base, "putRight(" + a + ", 0)", ears -> ears.putRight(a, 0));
            asked(base, "putRight(1, " + a + ")", ears -> ears.putRight(1, a));
            asked(base, "spread(" + a + ", 9)", ears -> ears.spread(a, 9));
            asked(base, "truth(0, " + a + ")", ears -> ears.truth(0, a));
            asked(base, "truth(" + a + ", 2)", ears -> ears.truth(a, 2));
            asked(base, "error(" + a + ", 5)", ears -> ears.error(a, 5));
            asked(base, "clock(" + a + ", 5)", ears -> ears.clock(a, 5));
        }
        asked(base, "spread(0, 1001)", ears -> ears.spread(0, 1001));
        asked(base, "error(0, 300001)", ears -> ears.error(0, 300001));
        asked(base, "clock(0, 200001)", ears -> ears.clock(0, 200001));
        asked(base, "stalest()", ears -> ears.stalest());
    }

    private static void noRoom() {
        Base base = base("full", ears -> {
            use(ears);
            for (int i = 3; i < 10; i++) {
                ears.bury(10 * i);
            }
            for (int i = 2; i < 10; i++) {
                ears.thump(50 * i, 10000 + i, 300);
                ears.knock(80 * i, 10000 + i, 400);
            }
        });
        refused(base, "bury(5)", ears -> ears.bury(5), ThumpEars.FULL);
        refused(base, "thump(5, 20000, 5)", ears -> ears.thump(5, 20000, 5), ThumpEars.FULL);
        refused(base, "knock(5, 20000, 5)", ears -> ears.knock(5, 20000, 5), ThumpEars.FULL);
        refused(base, "thump(5, 10008, 5)", ears -> ears.thump(5, 10008, 5), ThumpEars.NOT_POSSIBLE);
        refused(base, "knock(5, 10008, 5)", ears -> ears.knock(5, 10008, 5), ThumpEars.NOT_POSSIBLE);
        refused(base, "readOrders()", ears -> ears.readOrders(), ThumpEars.FULL);
    }

    private static Base withText(String text) {
        return base("\"" + text + "\"", ears -> {
            use(ears);
            ears.clearText();
            Answers.type(ears, text);
        });
    }

    private static void texts() {
        Object[][] rows = {
            {"", -100}, {"t5@70000;", -109}, {"t5@70000;k7@80000x", -117}, {"t5@70000;k7@80000*0", ThumpEars.BAD_VALUE},
            {"t5@70000;k7@69999", ThumpEars.NOT_POSSIBLE}, {"t5@70000;t1001@80000;t6@90000", ThumpEars.BAD_VALUE},
            {"t1@70000;t1@70000;t1@70000;k1@70000;k1@69999", ThumpEars.NOT_POSSIBLE},
            {"t5@9599", ThumpEars.NOT_POSSIBLE},
        };
        for (Object[] row : rows) {
            refused(withText((String) row[0]), "readOrders()", ears -> ears.readOrders(), (int) row[1]);
        }
        Base full = withText("t5@70000*100;k6@70001*200;t7@70002*300;k8@70003*40;t9@70004*5");
        refused(full, "type(';')", ears -> ears.type(';'), ThumpEars.FULL);
        refused(full, "type('5')", ears -> ears.type('5'), ThumpEars.FULL);
        refused(full, "count(10)", ears -> ears.count(10), 60);
    }
}
