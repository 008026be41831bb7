/** Promises 15 to 19: what is told of ears, their clocks, marks and errors. */
public final class EarsTest {
    public static void main(String[] args) {
        promise15();
        promise16();
        promise17();
        marksThatDoNotCount();
        promise18();
        promise18WithManyMarks();
        promise19();
        Answers.end();
    }

    private static void due(String call, long got, long want) {
        Answers.due(call, got, want);
    }

    private static void promise15() {
        ThumpEars ears = new ThumpEars();
        ears.bury(100);
        ears.bury(200);
        ears.setClock(1, -500, 50);
        ears.mute(0, true);
        ears.thump(200, 10, 1000);
        ears.thump(200, 1000, 1000);
        ears.knock(200, 2000, 1000);
        ears.mute(0, false);
        ears.knock(200, 3000, 50);
        ears.knock(200, 3000, 100);
        int[][] wants = {{100, 0, 1000, 1000, 0, ThumpEars.NONE, 1}, {200, 0, 500, 1050, 2, 10505, 3}};
        for (int ear = 0; ear < 2; ear++) {
            for (int what = 0; what <= 6; what++) {
                due("ear(" + ear + ", " + what + ")", ears.ear(ear, what), wants[ear][what]);
            }
            due("ear(" + ear + ", -1)", ears.ear(ear, -1), ThumpEars.BAD_VALUE);
            due("ear(" + ear + ", 7)", ears.ear(ear, 7), ThumpEars.BAD_VALUE);
        }
        due("ear(-1, 7)", ears.ear(-1, 7), ThumpEars.UNKNOWN);
        due("ear(2, 0)", ears.ear(2, 0), ThumpEars.UNKNOWN);
        ears.leaveOut(1, true);
        due("ear(1, 4)", ears.ear(1, 4), 1);
        due("ear(1, 5)", ears.ear(1, 5), 9510);
        ears.leaveOut(0, true);
        due("ear(1, 5) without marks", ears.ear(1, 5), ThumpEars.NONE);
        ears.leaveOut(1, false);
        due("ear(1, 5)", ears.ear(1, 5), 10505);
        due("ear(1, 4)", ears.ear(1, 4), 1);
        ears.mute(1, true);
        due("ear(1, 1)", ears.ear(1, 1), 1);
        due("ear(1, 6) stays", ears.ear(1, 6), 3);
    }

    private static void promise16() {
        ThumpEars ears = new ThumpEars();
        ears.bury(0);
        due("clock(0, 0)", ears.clock(0, 0), 10000);
        due("clock(0, 200000)", ears.clock(0, 200000), 210000);
        due("clock(0, -1)", ears.clock(0, -1), ThumpEars.BAD_VALUE);
        due("clock(0, 200001)", ears.clock(0, 200001), ThumpEars.BAD_VALUE);
        due("clock(1, -1)", ears.clock(1, -1), ThumpEars.UNKNOWN);
        due("clock(-1, 0)", ears.clock(-1, 0), ThumpEars.UNKNOWN);
        ears.setClock(0, 0, 1);
        due("clock(0, 9999)", ears.clock(0, 9999), 19999);
        due("clock(0, 10000)", ears.clock(0, 10000), 20001);
        ears.setClock(0, 0, -1);
        due("clock(0, 0)", ears.clock(0, 0), 10000);
        due("clock(0, 1)", ears.clock(0, 1), 10000);
        due("clock(0, 10000)", ears.clock(0, 10000), 19999);
        due("clock(0, 10001)", ears.clock(0, 10001), 19999);
        ears.setClock(0, -500, -50);
        due("clock(0, 200000)", ears.clock(0, 200000), 208500);
        ears.setClock(0, 500, 50);
        due("clock(0, 200000)", ears.clock(0, 200000), 211500);
        ears.set(0, 20);
        due("the pace is nothing to a clock", ears.clock(0, 200000), 211500);
    }

    private static void promise17() {
        ThumpEars ears = new ThumpEars();
        ears.bury(50);
        due("mark(1, -1, 3)", ears.mark(1, -1, 3), ThumpEars.UNKNOWN);
        due("mark(-1, 0, 0)", ears.mark(-1, 0, 0), ThumpEars.UNKNOWN);
        due("mark(0, -1, 0)", ears.mark(0, -1, 0), ThumpEars.BAD_VALUE);
        due("mark(0, 0, -1)", ears.mark(0, 0, -1), ThumpEars.BAD_VALUE);
        due("mark(0, 0, 3)", ears.mark(0, 0, 3), ThumpEars.BAD_VALUE);
        due("mark(0, 0, 0) without marks", ears.mark(0, 0, 0), ThumpEars.NONE);
        due("mark(0, greatest int, 0)", ears.mark(0, Integer.MAX_VALUE, 0), ThumpEars.NONE);
        ears.setClock(0, -30, 0);
        ears.thump(0, 0, 10);
        ears.thump(40, 0, 1000);
        ears.set(0, 1);
        ears.setClock(0, 30, 0);
        ears.knock(40, 90, 1000);
        ears.thump(40, 100, 1000);
        due("mark(0, 0, 0)", ears.mark(0, 0, 0), 10000);
        due("mark(0, 0, 1)", ears.mark(0, 0, 1), 9970);
        due("mark(0, 0, 2)", ears.mark(0, 0, 2), 1);
        due("mark(0, 1, 0)", ears.mark(0, 1, 0), 10140);
        due("mark(0, 1, 1)", ears.mark(0, 1, 1), 10030);
        due("mark(0, 1, 2)", ears.mark(0, 1, 2), 2);
        due("mark(0, 2, 0)", ears.mark(0, 2, 0), ThumpEars.NONE);
        ears.leaveOut(1, true);
        due("mark(0, 0, 2)", ears.mark(0, 0, 2), 2);
        due("mark(0, 1, 2)", ears.mark(0, 1, 2), ThumpEars.NONE);
    }

    private static void marksThatDoNotCount() {
        ThumpEars ears = new ThumpEars();
        ears.bury(0);
        ears.setClock(0, 100, 0);
        ears.thump(0, 100, 1);
        ears.setClock(0, 50, 0);
        // readings 200, then 200 by another error, 190, 195 (lesser than the first, but not than the one ahead), 201
        ears.thump(0, 150, 1);
        ears.setClock(0, 40, 0);
        ears.thump(0, 150, 1);
        ears.setClock(0, 45, 0);
        ears.thump(0, 150, 1);
        ears.setClock(0, 51, 0);
        ears.thump(0, 150, 1);
        due("ear(0, 4)", ears.ear(0, 4), 2);
        due("mark(0, 0, 1)", ears.mark(0, 0, 1), 10100);
        due("mark(0, 0, 2)", ears.mark(0, 0, 2), 0);
        due("mark(0, 1, 0)", ears.mark(0, 1, 0), 10201);
        due("mark(0, 1, 2)", ears.mark(0, 1, 2), 4);
        ears.leaveOut(0, true);
        due("a mark that was not the first counts: mark(0, 0, 1)", ears.mark(0, 0, 1), 10050);
        due("mark(0, 0, 2)", ears.mark(0, 0, 2), 1);
        due("ear(0, 4)", ears.ear(0, 4), 2);
        ears.leaveOut(1, true);
        due("ear(0, 4)", ears.ear(0, 4), 3);
        due("mark(0, 0, 0)", ears.mark(0, 0, 0), 10190);
        due("mark(0, 1, 0)", ears.mark(0, 1, 0), 10195);
        due("ear(0, 5)", ears.ear(0, 5), 10201);
    }

    private static void promise18() {
        ThumpEars ears = new ThumpEars();
        due("error(0, 0) without ears", ears.error(0, 0), Answers.LONG_UNKNOWN);
        ears.bury(0);
        due("error(-1, 0)", ears.error(-1, 0), Answers.LONG_UNKNOWN);
        due("error(1, 300001)", ears.error(1, 300001), Answers.LONG_UNKNOWN);
        due("error(0, -10001)", ears.error(0, -10001), Answers.LONG_BAD_VALUE);
        due("error(0, 300001)", ears.error(0, 300001), Answers.LONG_BAD_VALUE);
        due("error(0, -10000)", ears.error(0, -10000), 0);
        due("error(0, 300000)", ears.error(0, 300000), 0);
        ears.setClock(0, -7, 0);
        ears.thump(0, 7, 1);
        due("one mark: error(0, -10000)", ears.error(0, -10000), -7000);
        due("one mark: error(0, 0)", ears.error(0, 0), -7000);
        due("one mark: error(0, 300000)", ears.error(0, 300000), -7000);
        ears.setClock(0, -6, 0);
        ears.thump(0, 9, 1);
        // marks (0, -7) and (3, -6): a third of 1000 a tick
        due("two marks: error(0, 0)", ears.error(0, 0), -7000);
        due("two marks: error(0, 1)", ears.error(0, 1), -6667);
        due("two marks: error(0, 2)", ears.error(0, 2), -6334);
        due("two marks: error(0, 3)", ears.error(0, 3), -6000);
        due("two marks: error(0, 4)", ears.error(0, 4), -5667);
        due("two marks: error(0, -1)", ears.error(0, -1), -7334);
        due("two marks: error(0, -10000)", ears.error(0, -10000), -3340334);
        due("two marks: error(0, 300000)", ears.error(0, 300000), 99993000);
    }

    private static void promise18WithManyMarks() {
        ThumpEars ears = new ThumpEars();
        ears.bury(0);
        int[][] clocks = {{0, 100}, {10, 190}, {-20, 320}, {500, 500}};
        for (int[] clock : clocks) {
            ears.setClock(0, clock[0], 0);
            ears.thump(0, clock[1], 1);
        }
        // marks (100, 0), (200, 10), (300, -20), (1000, 500)
        due("error(0, 99)", ears.error(0, 99), -100);
        due("error(0, 100)", ears.error(0, 100), 0);
        due("error(0, 199)", ears.error(0, 199), 9900);
        due("error(0, 200)", ears.error(0, 200), 10000);
        due("error(0, 201)", ears.error(0, 201), 9700);
        due("error(0, 299)", ears.error(0, 299), -19700);
        due("error(0, 300)", ears.error(0, 300), -20000);
        due("error(0, 301)", ears.error(0, 301), -19258);
        due("error(0, 999)", ears.error(0, 999), 499257);
        due("error(0, 1000)", ears.error(0, 1000), 500000);
        due("error(0, 1001)", ears.error(0, 1001), 500742);
        ears.leaveOut(2, true);
        due("left out: error(0, 300)", ears.error(0, 300), 71250);
        ThumpEars steep = new ThumpEars();
        steep.bury(0);
        steep.setClock(0, 500, 0);
        steep.thump(0, 0, 1);
        steep.setClock(0, -499, 0);
        steep.thump(0, 1000, 1);
        // marks (500, 500) and (501, -499): more than an int holds
        due("steep: error(0, 300000)", steep.error(0, 300000), 500000L - 999000L * 299500L);
        due("steep: error(0, -10000)", steep.error(0, -10000), 500000L + 999000L * 10500L);
    }

    private static void promise19() {
        ThumpEars ears = new ThumpEars();
        due("stalest() without ears", ears.stalest(), ThumpEars.NONE);
        ears.bury(0);
        ears.bury(500);
        ears.bury(1000);
        due("stalest() without marks", ears.stalest(), 0);
        ears.thump(0, 0, 1);
        due("an ear without marks goes ahead", ears.stalest(), 1);
        ears.thump(500, 10, 1);
        due("the last one without marks", ears.stalest(), 2);
        ears.thump(1000, 20, 1);
        due("the one of the earliest thump", ears.stalest(), 0);
        ears.thump(0, 30, 500);
        due("all but one are tuned anew", ears.stalest(), 2);
        ears.thump(1000, 1000, 1000);
        due("of several the lowest", ears.stalest(), 0);
        ears.leaveOut(4, true);
        due("thumps that are left out", ears.stalest(), 2);
        ears.mute(2, true);
        due("a mute ear is told, too", ears.stalest(), 2);
        // a later mark that does not count is none
        ThumpEars other = new ThumpEars();
        other.bury(0);
        other.bury(0);
        other.setClock(1, 500, 0);
        other.thump(0, 0, 1);
        other.setClock(1, 0, 0);
        other.thump(0, 10, 1);
        due("other: heard(false, 1, 1)", other.heard(false, 1, 1), 10010);
        due("other: stalest()", other.stalest(), 1);
    }
}
