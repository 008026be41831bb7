/** Each argument of each call: the last values that are allowed and the first ones that are not, on both sides. */
public final class RangesTest {
    /** A call with one argument that is left open. */
    private interface Call {
        long with(ThumpEars ears, int argument);
    }

    public static void main(String[] args) {
        string();
        sounds(false);
        sounds(true);
        leaveOut();
        ears();
        marks();
        heard();
        knocks();
        nothingThereYet();
        noMoreRoom();
        nothingAfterUndo();
        characters();
        Answers.end();
    }

    private static void due(String call, long got, long want) {
        Answers.due(call, got, want);
    }

    /** Three ears that heard three thumps and two knocks, but for the last knock, which the first ear did not hear. */
    private static void use(ThumpEars ears) {
        ears.bury(0);
        ears.bury(500);
        ears.bury(1000);
        ears.setClock(1, 100, 0);
        ears.thump(500, 1000, 1000);
        ears.thump(500, 2000, 500);
        ears.knock(250, 3000, 1000);
        ears.knock(750, 4000, 500);
        ears.thump(0, 4000, 1);
    }

    /** Wants the answers for the least and the greatest argument, and the error for those beside them. */
    private static void range(String call, Answers.Run run, Call open, int[] bounds, long[] wants, long error) {
        for (int i = 0; i < 2; i++) {
            due(call + " of " + bounds[i], open.with(Answers.after(run), bounds[i]), wants[i]);
        }
        int[] refused = {bounds[0] - 1, bounds[1] + 1, Integer.MIN_VALUE, Integer.MAX_VALUE};
        for (int argument : refused) {
            due(call + " of " + argument, open.with(Answers.after(run), argument), error);
        }
    }

    private static void used(String call, Call open, int least, long atLeast, int greatest, long atGreatest,
        long error) {
        range(call, RangesTest::use, open, new int[] {least, greatest}, new long[] {atLeast, atGreatest}, error);
    }

    private static void string() {
        used("bury(place)", (ears, a) -> ears.bury(a), 0, 3, 1000, 3, ThumpEars.BAD_VALUE);
        used("the place of bury(place)", (ears, a) -> Math.min(ears.bury(a), ears.ear(3, 0)), 0, 0, 1000, 3, -2);
        used("setClock(ear, 1, 2)", (ears, a) -> ears.setClock(a, 1, 2), 0, 1, 2, 1, ThumpEars.UNKNOWN);
        used("setClock(0, offset, 0)", (ears, a) -> ears.setClock(0, a, 0), -500, 1, 500, 1, ThumpEars.BAD_VALUE);
        used("setClock(0, 0, drift)", (ears, a) -> ears.setClock(0, 0, a), -50, 1, 50, 1, ThumpEars.BAD_VALUE);
        used("mute(ear, true)", (ears, a) -> ears.mute(a, true), 0, 1, 2, 1, ThumpEars.UNKNOWN);
        used("mute(ear, false)", (ears, a) -> ears.mute(a, false), 0, ThumpEars.NONE, 2, ThumpEars.NONE,
            ThumpEars.UNKNOWN);
        used("set(what, 7)", (ears, a) -> ears.set(a, 7), 0, 3, 1, 5, ThumpEars.BAD_VALUE);
        used("set(0, value)", (ears, a) -> ears.set(0, a), 1, 3, 20, 3, ThumpEars.BAD_VALUE);
        used("set(1, value)", (ears, a) -> ears.set(1, a), 0, 5, 500, 5, ThumpEars.BAD_VALUE);
    }

    private static int make(ThumpEars ears, boolean knock, int place, int time, int reach) {
        return knock ? ears.knock(place, time, reach) : ears.thump(place, time, reach);
    }

    private static void sounds(boolean knock) {
        String name = knock ? "knock" : "thump";
        used(name + "(place, 4000, 500)", (ears, a) -> make(ears, knock, a, 4000, 500), 0, 2, 1000, 2,
            ThumpEars.BAD_VALUE);
        used(name + "(500, 4000, reach)", (ears, a) -> make(ears, knock, 500, 4000, a), 1, 1, 1000, 3,
            ThumpEars.BAD_VALUE);
        range(name + "(0, time, 1)", ears -> ears.bury(0), (ears, a) -> make(ears, knock, 0, a, 1),
            new int[] {0, 100000}, new long[] {1, 1}, ThumpEars.BAD_VALUE);
        ThumpEars ears = Answers.after(RangesTest::use);
        due(name + " ahead of the latest", make(ears, knock, 0, 3999, 1), ThumpEars.NOT_POSSIBLE);
        due(name + " at the time of the latest", make(ears, knock, 0, 4000, 1), 1);
        due(name + " at 0 behind a later one", make(ears, knock, 0, 0, 1), ThumpEars.NOT_POSSIBLE);
        // the ways to the ears at 0, 500 and 1000 are 400, 100 and 600
        due(name + " with a reach of 99", make(ears, knock, 400, 5000, 99), 0);
        due(name + " with a reach of 100", make(ears, knock, 400, 5000, 100), 1);
        due(name + " with a reach of 399", make(ears, knock, 400, 5000, 399), 1);
        due(name + " with a reach of 400", make(ears, knock, 400, 5000, 400), 2);
        due(name + " with a reach of 599", make(ears, knock, 400, 5000, 599), 2);
        due(name + " with a reach of 600", make(ears, knock, 400, 5000, 600), 3);
        ThumpEars ends = Answers.after(RangesTest::use);
        due(name + " from end to end, with a reach of 999", make(ends, knock, 1000, 5000, 999), 2);
        due(name + " from end to end, with a reach of 1000", make(ends, knock, 1000, 5000, 1000), 3);
    }

    private static void leaveOut() {
        used("leaveOut(thump, true)", (ears, a) -> ears.leaveOut(a, true), 0, 1, 2, 1, ThumpEars.UNKNOWN);
        used("leaveOut(thump, false)", (ears, a) -> ears.leaveOut(a, false), 0, ThumpEars.NONE, 2, ThumpEars.NONE,
            ThumpEars.UNKNOWN);
    }

    private static void ears() {
        used("ear(ear, 0)", (ears, a) -> ears.ear(a, 0), 0, 0, 2, 1000, ThumpEars.UNKNOWN);
        used("ear(1, what)", (ears, a) -> ears.ear(1, a), 0, 500, 6, 2, ThumpEars.BAD_VALUE);
        used("clock(ear, 7)", (ears, a) -> ears.clock(a, 7), 0, 10007, 2, 10007, ThumpEars.UNKNOWN);
        used("clock(1, time)", (ears, a) -> ears.clock(1, a), 0, 10100, 200000, 210100, ThumpEars.BAD_VALUE);
        used("error(ear, 7)", (ears, a) -> ears.error(a, 7), 0, 0, 2, 0, Answers.LONG_UNKNOWN);
        used("error(1, reading)", (ears, a) -> ears.error(1, a), -10000, 100000, 300000, 100000,
            Answers.LONG_BAD_VALUE);
    }

    private static void marks() {
        used("mark(ear, 0, 2)", (ears, a) -> ears.mark(a, 0, 2), 0, 0, 2, 0, ThumpEars.UNKNOWN);
        used("mark(1, 0, what)", (ears, a) -> ears.mark(1, 0, a), 0, 11100, 2, 0, ThumpEars.BAD_VALUE);
        ThumpEars ears = Answers.after(RangesTest::use);
        due("mark(0, -1, 2)", ears.mark(0, -1, 2), ThumpEars.BAD_VALUE);
        due("mark(0, least int, 2)", ears.mark(0, Integer.MIN_VALUE, 2), ThumpEars.BAD_VALUE);
        due("mark(0, 2, 2)", ears.mark(0, 2, 2), 2);
        due("mark(0, 3, 2)", ears.mark(0, 3, 2), ThumpEars.NONE);
        due("mark(1, 1, 2)", ears.mark(1, 1, 2), 1);
        due("mark(1, 2, 2)", ears.mark(1, 2, 2), ThumpEars.NONE);
        due("mark(0, 10, 2)", ears.mark(0, 10, 2), ThumpEars.NONE);
        due("mark(0, greatest int, 2)", ears.mark(0, Integer.MAX_VALUE, 2), ThumpEars.NONE);
    }

    private static void heard() {
        used("heard(false, thump, 0)", (ears, a) -> ears.heard(false, a, 0), 0, 12500, 2, 14000, ThumpEars.UNKNOWN);
        used("heard(true, knock, 1)", (ears, a) -> ears.heard(true, a, 1), 0, 13850, 1, 14850, ThumpEars.UNKNOWN);
        used("heard(false, 0, ear)", (ears, a) -> ears.heard(false, 0, a), 0, 12500, 2, 12500, ThumpEars.UNKNOWN);
        used("heard(true, 0, ear)", (ears, a) -> ears.heard(true, 0, a), 0, 13750, 2, 15250, ThumpEars.UNKNOWN);
        used("putRight(knock, 1)", (ears, a) -> ears.putRight(a, 1), 0, 3750000, 1, 4750000, Answers.LONG_UNKNOWN);
        used("putRight(0, ear)", (ears, a) -> ears.putRight(0, a), 0, 3750000, 2, 5250000, Answers.LONG_UNKNOWN);
    }

    private static void knocks() {
        used("found(knock, 0)", (ears, a) -> ears.found(a, 0), 0, 250, 1, 750, Answers.LONG_UNKNOWN);
        used("found(0, what)", (ears, a) -> ears.found(0, a), 0, 250, 5, 0, Answers.LONG_BAD_VALUE);
        used("spread(knock, 500)", (ears, a) -> ears.spread(a, 500), 0, 1500000, 1, 1500000, Answers.LONG_UNKNOWN);
        // put right: 3750, 3750 and 5250; less the ways: 3750, 2250 and 2250 for 0, 750, 2250 and 5250 for 1000
        used("spread(0, place)", (ears, a) -> ears.spread(0, a), 0, 1500000, 1000, 4500000, Answers.LONG_BAD_VALUE);
        used("truth(knock, 0)", (ears, a) -> ears.truth(a, 0), 0, 250, 1, 750, ThumpEars.UNKNOWN);
        used("truth(0, what)", (ears, a) -> ears.truth(0, a), 0, 250, 2, 0, ThumpEars.BAD_VALUE);
        used("count(what)", (ears, a) -> ears.count(a), 0, 3, 10, 0, ThumpEars.BAD_VALUE);
    }

    private static void nothingThereYet() {
        ThumpEars ears = new ThumpEars();
        due("new: setClock(0, 1, 1)", ears.setClock(0, 1, 1), ThumpEars.UNKNOWN);
        due("new: mute(0, true)", ears.mute(0, true), ThumpEars.UNKNOWN);
        due("new: mute(0, false)", ears.mute(0, false), ThumpEars.UNKNOWN);
        due("new: leaveOut(0, true)", ears.leaveOut(0, true), ThumpEars.UNKNOWN);
        due("new: leaveOut(0, false)", ears.leaveOut(0, false), ThumpEars.UNKNOWN);
        due("new: readOrders()", ears.readOrders(), -100);
        due("new: clearText()", ears.clearText(), 0);
        due("new: undo()", ears.undo(), ThumpEars.NONE);
        due("new: restore()", ears.restore(), ThumpEars.NONE);
        due("new: ear(0, 0)", ears.ear(0, 0), ThumpEars.UNKNOWN);
        due("new: clock(0, 0)", ears.clock(0, 0), ThumpEars.UNKNOWN);
        due("new: mark(0, 0, 0)", ears.mark(0, 0, 0), ThumpEars.UNKNOWN);
        due("new: error(0, 0)", ears.error(0, 0), Answers.LONG_UNKNOWN);
        due("new: stalest()", ears.stalest(), ThumpEars.NONE);
        due("new: heard(false, 0, 0)", ears.heard(false, 0, 0), ThumpEars.UNKNOWN);
        due("new: heard(true, 0, 0)", ears.heard(true, 0, 0), ThumpEars.UNKNOWN);
        due("new: putRight(0, 0)", ears.putRight(0, 0), Answers.LONG_UNKNOWN);
        due("new: found(0, 3)", ears.found(0, 3), Answers.LONG_UNKNOWN);
        due("new: spread(0, 0)", ears.spread(0, 0), Answers.LONG_UNKNOWN);
        due("new: truth(0, 0)", ears.truth(0, 0), ThumpEars.UNKNOWN);
        due("new: count(5)", ears.count(5), 0);
        due("new: count(8)", ears.count(8), 0);
        due("new: keep()", ears.keep(), 0);
        ears.bury(7);
        due("an ear: heard(false, 0, 0)", ears.heard(false, 0, 0), ThumpEars.UNKNOWN);
        due("an ear: heard(true, 0, 0)", ears.heard(true, 0, 0), ThumpEars.UNKNOWN);
        due("an ear: putRight(0, 0)", ears.putRight(0, 0), Answers.LONG_UNKNOWN);
        due("an ear: mark(0, 0, 0)", ears.mark(0, 0, 0), ThumpEars.NONE);
        due("an ear: ear(0, 4)", ears.ear(0, 4), 0);
        due("an ear: ear(0, 5)", ears.ear(0, 5), ThumpEars.NONE);
        due("an ear: ear(0, 6)", ears.ear(0, 6), 0);
        due("an ear: stalest()", ears.stalest(), 0);
        ears.thump(7, 0, 1);
        due("a thump: heard(true, 0, 0)", ears.heard(true, 0, 0), ThumpEars.UNKNOWN);
        due("a thump: truth(0, 0)", ears.truth(0, 0), ThumpEars.UNKNOWN);
        due("a thump: found(0, 3)", ears.found(0, 3), Answers.LONG_UNKNOWN);
        ThumpEars knocks = new ThumpEars();
        due("a knock without ears", knocks.knock(7, 0, 1), 0);
        due("a knock: found(0, 3)", knocks.found(0, 3), 0);
        due("a knock: found(0, 0)", knocks.found(0, 0), Answers.LONG_NOT_POSSIBLE);
        due("a knock: spread(0, 0)", knocks.spread(0, 0), Answers.LONG_NOT_POSSIBLE);
        due("a knock: truth(0, 0)", knocks.truth(0, 0), 7);
        due("a knock: truth(0, 2)", knocks.truth(0, 2), ThumpEars.NOT_POSSIBLE);
        due("a knock: putRight(0, 0)", knocks.putRight(0, 0), Answers.LONG_UNKNOWN);
        due("a knock: leaveOut(0, true)", knocks.leaveOut(0, true), ThumpEars.UNKNOWN);
        due("a knock: heard(false, 0, 0)", knocks.heard(false, 0, 0), ThumpEars.UNKNOWN);
    }

    private static void noMoreRoom() {
        Answers.Run run = ears -> {
            for (int i = 0; i < 10; i++) {
                due("bury " + i, ears.bury(i), i);
            }
            for (int i = 0; i < 10; i++) {
                due("thump " + i, ears.thump(i, 10 * i, 1000), 10);
            }
            for (int i = 0; i < 10; i++) {
                due("knock " + i, ears.knock(i, 90 + i, 1000), 10);
            }
        };
        int[] ten = {0, 9};
        range("full: ear(ear, 0)", run, (ears, a) -> ears.ear(a, 0), ten, new long[] {0, 9}, -1);
        range("full: mark(ear, 9, 2)", run, (ears, a) -> ears.mark(a, 9, 2), ten, new long[] {9, 9}, -1);
        range("full: leaveOut(thump, true)", run, (ears, a) -> ears.leaveOut(a, true), ten, new long[] {1, 1}, -1);
        range("full: heard(false, thump, 9)", run, (ears, a) -> ears.heard(false, a, 9), ten,
            new long[] {10027, 10090}, -1);
        range("full: heard(true, knock, 9)", run, (ears, a) -> ears.heard(true, a, 9), ten,
            new long[] {10117, 10099}, -1);
        range("full: truth(knock, 1)", run, (ears, a) -> ears.truth(a, 1), ten, new long[] {90, 99}, -1);
        range("full: found(knock, 3)", run, (ears, a) -> ears.found(a, 3), ten, new long[] {10, 10},
            Answers.LONG_UNKNOWN);
        ThumpEars ears = Answers.after(run);
        due("full: bury(5)", ears.bury(5), ThumpEars.FULL);
        due("full: thump(0, 99, 1)", ears.thump(0, 99, 1), ThumpEars.FULL);
        due("full: knock(0, 99, 1)", ears.knock(0, 99, 1), ThumpEars.FULL);
        due("full: ear(9, 4)", ears.ear(9, 4), 10);
        due("full: ear(9, 6)", ears.ear(9, 6), 10);
        due("full: mark(9, 10, 2)", ears.mark(9, 10, 2), ThumpEars.NONE);
        due("full: keep()", ears.keep(), 20);
        due("full: restore()", ears.restore(), 20);
        due("full: undo()", ears.undo(), 3);
        due("room again: undo()", ears.undo(), 2);
        due("room again: knock(0, 98, 1)", ears.knock(0, 98, 1), 2);
        due("room again: the next one", ears.knock(0, 98, 1), ThumpEars.FULL);
    }

    /** What was undone is as unknown as if it had never been, and leaves nothing in its place. */
    private static void nothingAfterUndo() {
        ThumpEars ears = new ThumpEars();
        ears.bury(5);
        ears.undo();
        due("undone: ear(0, 0)", ears.ear(0, 0), ThumpEars.UNKNOWN);
        due("undone: stalest()", ears.stalest(), ThumpEars.NONE);
        ears.bury(6);
        ears.bury(7);
        ears.setClock(1, 500, 50);
        ears.mute(1, true);
        for (int i = 0; i < 3; i++) {
            ears.undo();
        }
        due("buried again: bury(8)", ears.bury(8), 1);
        int[] wants = {8, 0, 1000, 1000, 0, ThumpEars.NONE, 0};
        for (int what = 0; what < wants.length; what++) {
            due("buried again: ear(1, " + what + ")", ears.ear(1, what), wants[what]);
        }
        ears.thump(8, 50, 1000);
        ears.leaveOut(0, true);
        ears.undo();
        ears.undo();
        due("undone: leaveOut(0, false)", ears.leaveOut(0, false), ThumpEars.UNKNOWN);
        due("undone: heard(false, 0, 0)", ears.heard(false, 0, 0), ThumpEars.UNKNOWN);
        due("undone: the time falls back", ears.thump(8, 0, 1), 1);
        due("made again: it is not left out", ears.leaveOut(0, false), ThumpEars.NONE);
        due("made again: heard(false, 0, 0)", ears.heard(false, 0, 0), ThumpEars.NONE);
        due("made again: heard(false, 0, 1)", ears.heard(false, 0, 1), 10000);
    }

    private static void characters() {
        char[] signs = {0, 1, 't', 127, 128, 255, 256, '\ud800', '\uffff'};
        ThumpEars ears = new ThumpEars();
        for (int i = 0; i < signs.length; i++) {
            due("type of the character " + (int) signs[i], ears.type(signs[i]), i + 1);
        }
        for (int length = signs.length + 1; length <= 60; length++) {
            due("type", ears.type('0'), length);
        }
        for (char sign : signs) {
            due("type of a 61st, " + (int) sign, ears.type(sign), ThumpEars.FULL);
        }
        due("readOrders()", ears.readOrders(), -100);
        due("clearText()", ears.clearText(), 60);
    }
}
