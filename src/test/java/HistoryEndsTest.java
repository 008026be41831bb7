/** What is recorded, dropped and restored at the ends of the history. */
public final class HistoryEndsTest {
    /** An act, what it answers, and what count() tells of its trace then. */
    private record Act(String name, Call call, int want) {
    }

    private interface Call {
        int on(ThumpEars ears);
    }

    private static final Act[] ACTS = {
        new Act("bury", ears -> ears.bury(77), 3),
        new Act("setClock", ears -> ears.setClock(0, 3, 4), 1),
        new Act("setClock of the offset alone", ears -> ears.setClock(0, 3, 0), 1),
        new Act("setClock of the drift alone", ears -> ears.setClock(0, 0, 4), 1),
        new Act("mute", ears -> ears.mute(0, true), 2),
        new Act("mute, not any more", ears -> ears.mute(1, false), 0),
        new Act("set of the pace", ears -> ears.set(0, 20), 14),
        new Act("set of the tolerance", ears -> ears.set(1, 9), 0),
        new Act("thump", ears -> ears.thump(5, 500, 1000), 2),
        new Act("thump that no ear hears", ears -> ears.thump(999, 500, 1), 0),
        new Act("knock", ears -> ears.knock(5, 500, 1000), 2),
        new Act("knock that no ear hears", ears -> ears.knock(999, 500, 1), 0),
        new Act("leaveOut", ears -> ears.leaveOut(0, true), 2),
        new Act("leaveOut, not any more", ears -> ears.leaveOut(1, false), 0),
        new Act("readOrders of one", ears -> Answers.orders(ears, "k5@500"), 1),
        new Act("readOrders of several", ears -> Answers.orders(ears, "t5@500;t6@500;k7@501;k8@502"), 4),
        new Act("restore", ears -> ears.restore(), 1),
    };

    public static void main(String[] args) {
        for (Act act : ACTS) {
            withoutHistory(act);
            withHistory(act);
            withFullHistory(act);
        }
        restoreOfTheSame();
        noActs();
        lengths();
        backAndForth();
        snapshots();
        firstAnswersOfNothing();
        tenthOfAll();
        Answers.end();
    }

    private static void due(String call, long got, long want) {
        Answers.due(call, got, want);
    }

    /** Leaves a string without a history, and the pace 14. */
    private static void use(ThumpEars ears) {
        ears.bury(0);
        ears.bury(10);
        ears.bury(20);
        ears.mute(1, true);
        ears.set(1, 0);
        ears.thump(7, 300, 1000);
        ears.keep();
        ears.thump(8, 400, 1000);
        ears.leaveOut(1, true);
        ears.set(0, 14);
        for (int pace = 15; pace <= 18; pace++) {
            ears.set(0, pace);
        }
        for (int left = 3; left >= 0; left--) {
            due("undo()", ears.undo(), left);
        }
        due("count(3)", ears.count(3), 14);
    }

    private static void withoutHistory(Act act) {
        Answers.Run run = HistoryEndsTest::use;
        String before = Answers.stateAfter(run);
        Answers.Run done = run.and(ears -> due(act.name, act.call.on(ears), act.want));
        Answers.differs(act.name + ": the state", Answers.stateAfter(done), before);
        ThumpEars ears = Answers.after(done);
        due(act.name + ": count(9)", ears.count(9), 1);
        due(act.name + ": undo()", ears.undo(), 0);
        due(act.name + ": undo() once more", ears.undo(), ThumpEars.NONE);
        Answers.Run undone = done.and(other -> {
            other.undo();
            other.undo();
        });
        Answers.same(act.name + ": the state that is restored", Answers.stateAfter(undone), before);
    }

    /** With 3 states in the history, there is room for one more, and none is dropped. */
    private static void withHistory(Act act) {
        ThumpEars ears = Answers.after(HistoryEndsTest::use);
        int[] paces = {11, 12, 14};
        for (int pace : paces) {
            ears.set(0, pace);
        }
        due(act.name + " as the fourth", act.call.on(ears), act.want);
        due(act.name + " as the fourth: count(9)", ears.count(9), 4);
        int[] wants = {14, 12, 11, 14};
        for (int i = 0; i < 4; i++) {
            due(act.name + " as the fourth: undo()", ears.undo(), 3 - i);
            due(act.name + " as the fourth: the pace", ears.count(3), wants[i]);
        }
        due(act.name + " as the fourth: undo() once more", ears.undo(), ThumpEars.NONE);
    }

    private static void withFullHistory(Act act) {
        Answers.Run full = HistoryEndsTest::use;
        full = full.and(ears -> {
            for (int pace = 10; pace <= 14; pace++) {
                ears.set(0, pace);
            }
        });
        Answers.Run done = full.and(ears -> due(act.name + " as the fifth", act.call.on(ears), act.want));
        ThumpEars ears = Answers.after(done);
        due(act.name + " as the fifth: count(9)", ears.count(9), 4);
        for (int i = 0; i < 4; i++) {
            due(act.name + " as the fifth: undo()", ears.undo(), 3 - i);
            due(act.name + " as the fifth: the pace", ears.count(3), 14 - i);
        }
        due(act.name + " as the fifth: the oldest is dropped", ears.undo(), ThumpEars.NONE);
        due(act.name + " as the fifth: the pace stays", ears.count(3), 11);
        Answers.Run undone = done.and(other -> other.undo());
        Answers.same(act.name + " as the fifth: the state", Answers.stateAfter(undone), Answers.stateAfter(full));
    }

    /** restore() is an act even if it changes nothing. */
    private static void restoreOfTheSame() {
        ThumpEars ears = Answers.after(HistoryEndsTest::use);
        due("keep()", ears.keep(), 2);
        for (int i = 1; i <= 6; i++) {
            due("restore()", ears.restore(), 2);
            due("restore(): count(9)", ears.count(9), Math.min(i, 4));
        }
    }

    /** What is not described as an act records nothing, be the history empty or full. */
    private static void noActs() {
        ThumpEars ears = Answers.after(HistoryEndsTest::use);
        for (int states = 0; states <= 4; states++) {
            if (states > 0) {
                ears.set(0, states);
            }
            ears.type('t');
            ears.keep();
            ears.clearText();
            ears.type('k');
            due("no acts: count(9)", ears.count(9), states);
        }
        for (int states = 3; states >= 0; states--) {
            due("no acts: undo()", ears.undo(), states);
            due("no acts: the pace", ears.count(3), states == 0 ? 14 : states);
            due("no acts: the text stays", ears.count(10), 1);
        }
    }

    private static void lengths() {
        for (int acts = 0; acts <= 9; acts++) {
            ThumpEars ears = new ThumpEars();
            for (int i = 0; i < acts; i++) {
                ears.bury(i);
            }
            int states = Math.min(acts, 4);
            due(acts + " acts: count(9)", ears.count(9), states);
            for (int left = states - 1; left >= 0; left--) {
                due(acts + " acts: undo()", ears.undo(), left);
                due(acts + " acts: count(9)", ears.count(9), left);
                due(acts + " acts: count(0)", ears.count(0), acts - states + left);
            }
            due(acts + " acts: undo() of no more", ears.undo(), ThumpEars.NONE);
            due(acts + " acts: count(0)", ears.count(0), acts - states);
        }
    }

    /** Acts behind an undo() take the place of what was undone, which does not come back. */
    private static void backAndForth() {
        ThumpEars ears = new ThumpEars();
        for (int tolerance = 101; tolerance <= 106; tolerance++) {
            ears.set(1, tolerance);
        }
        due("forth: undo()", ears.undo(), 3);
        due("forth: undo()", ears.undo(), 2);
        due("forth: count(4)", ears.count(4), 104);
        due("forth: set(1, 205)", ears.set(1, 205), 104);
        due("forth: set(1, 206)", ears.set(1, 206), 205);
        due("forth: set(1, 207)", ears.set(1, 207), 206);
        due("forth: count(9)", ears.count(9), 4);
        int[] wants = {206, 205, 104, 103};
        for (int i = 0; i < 4; i++) {
            due("forth: undo()", ears.undo(), 3 - i);
            due("forth: count(4)", ears.count(4), wants[i]);
        }
        due("forth: undo() of no more", ears.undo(), ThumpEars.NONE);
        due("forth: count(4)", ears.count(4), 103);
    }

    private static void snapshots() {
        ThumpEars ears = new ThumpEars();
        ears.set(1, 101);
        due("keep()", ears.keep(), 0);
        due("undo() behind keep()", ears.undo(), 0);
        due("undo() leaves the snapshot", ears.restore(), 0);
        due("the snapshot: count(4)", ears.count(4), 101);
        due("the history is none of the snapshot: count(9)", ears.count(9), 1);
        due("undo() of restore()", ears.undo(), 0);
        due("as it was: count(4)", ears.count(4), 5);
        Answers.type(ears, "t5@10;k5@20");
        due("orders", ears.readOrders(), 2);
        due("keep() in place of the one that was", ears.keep(), 2);
        ears.set(1, 103);
        ears.clearText();
        Answers.type(ears, "k5@30");
        due("orders", ears.readOrders(), 1);
        due("restore()", ears.restore(), 2);
        due("the last snapshot: count(4)", ears.count(4), 5);
        due("the text is none of the snapshot: count(10)", ears.count(10), 5);
        due("the text is that of now: readOrders()", ears.readOrders(), 1);
        due("truth(1, 1)", ears.truth(1, 1), 30);
        due("count(9)", ears.count(9), 4);
        due("undo() of the orders", ears.undo(), 3);
        due("undo() of restore()", ears.undo(), 2);
        due("ahead of restore(): count(4)", ears.count(4), 103);
        due("ahead of restore(): count(2)", ears.count(2), 2);
        due("keep() of three", ears.keep(), 3);
        due("restore() of three", ears.restore(), 3);
    }

    /** An act whose answer is 0 is an act like any other. */
    private static void firstAnswersOfNothing() {
        ThumpEars ears = new ThumpEars();
        due("bury(3)", ears.bury(3), 0);
        due("zero: count(9)", ears.count(9), 1);
        due("thump(500, 0, 1)", ears.thump(500, 0, 1), 0);
        due("zero: count(9)", ears.count(9), 2);
        due("knock(500, 0, 1)", ears.knock(500, 0, 1), 0);
        due("zero: count(9)", ears.count(9), 3);
        due("undo()", ears.undo(), 2);
        due("undo()", ears.undo(), 1);
        due("undo()", ears.undo(), 0);
        due("keep()", ears.keep(), 0);
        due("restore()", ears.restore(), 0);
        due("zero: count(9)", ears.count(9), 1);
        due("set(1, 0)", ears.set(1, 0), 5);
        due("set(1, 8)", ears.set(1, 8), 0);
        due("zero: count(9)", ears.count(9), 3);
        due("undo()", ears.undo(), 2);
        due("count(4)", ears.count(4), 0);
    }

    private static void nineOfAll(ThumpEars ears) {
        for (int i = 0; i < 9; i++) {
            ears.bury(100 * i);
        }
        for (int i = 0; i < 9; i++) {
            ears.thump(40 * i, 1000 * i, 1000);
            ears.knock(90 * i, 1000 * i, 1000);
        }
    }

    /** The last ear, thump and knock that there is room for are restored like the others. */
    private static void tenthOfAll() {
        Answers.Run nine = HistoryEndsTest::nineOfAll;
        Answers.Run first = ears -> {
            ears.bury(111);
            ears.setClock(9, 77, 7);
            ears.thump(222, 10000, 1000);
            ears.knock(333, 12000, 1000);
        };
        Answers.Run second = ears -> {
            ears.bury(888);
            ears.setClock(9, -66, -6);
            ears.thump(777, 11000, 900);
            ears.knock(666, 13000, 900);
        };
        twoWays("ear, thump and knock", nine, first, second, 4);
        twoWays("ear, thump and knock, turned", nine, second, first, 4);
        Answers.Run ten = nine.and(ears -> ears.bury(950));
        first = ears -> {
            ears.set(0, 9);
            ears.thump(222, 10000, 1000);
            ears.leaveOut(9, true);
            ears.mute(9, true);
        };
        second = ears -> {
            ears.set(0, 2);
            ears.thump(222, 10000, 1000);
            ears.set(1, 50);
            ears.set(0, 9);
        };
        twoWays("mute, and left out", ten, first, second, 4);
        twoWays("mute, and left out, turned", ten, second, first, 4);
        first = ears -> {
            ears.set(0, 9);
            ears.knock(222, 10000, 1000);
            ears.set(0, 5);
        };
        second = ears -> {
            ears.set(0, 2);
            ears.knock(222, 10000, 1000);
            ears.set(0, 5);
        };
        twoWays("the pace of a knock", ten, first, second, 3);
        twoWays("the pace of a knock, turned", ten, second, first, 3);
    }

    /** From one state, two ways by so many acts each: back by undo(), and across by the snapshot. */
    private static void twoWays(String name, Answers.Run run, Answers.Run first, Answers.Run second, int acts) {
        Answers.Run kept = run.and(first).and(ears -> ears.keep());
        Answers.Run back = kept.and(ears -> {
            for (int i = 1; i <= acts; i++) {
                due(name + ": undo()", ears.undo(), 4 - i);
            }
        });
        Answers.same(name + ": the state that was", Answers.stateAfter(back), Answers.stateAfter(run));
        Answers.Run other = back.and(second);
        String wanted = Answers.stateAfter(run.and(second));
        Answers.differs(name + ": the other way's state", wanted, Answers.stateAfter(kept));
        Answers.same(name + ": the other way's state", Answers.stateAfter(other), wanted);
        Answers.Run restored = other.and(ears -> ears.restore());
        Answers.same(name + ": what was kept", Answers.stateAfter(restored), Answers.stateAfter(kept));
        Answers.Run undone = restored.and(ears -> ears.undo());
        Answers.same(name + ": what is undone", Answers.stateAfter(undone), wanted);
    }
}
