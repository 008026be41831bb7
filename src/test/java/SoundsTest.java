/** Promises 6 to 8: thumps, knocks, and thumps that are left out. */
public final class SoundsTest {
    public static void main(String[] args) {
        promise6And7(false);
        promise6And7(true);
        timesOfBothTogether();
        reachAndPace();
        whatStays();
        promise8();
        Answers.end();
    }

    private static void due(String call, long got, long want) {
        Answers.due(call, got, want);
    }

    private static int make(ThumpEars ears, boolean knock, int place, int time, int reach) {
        return knock ? ears.knock(place, time, reach) : ears.thump(place, time, reach);
    }

    private static void promise6And7(boolean knock) {
        String name = knock ? "knock" : "thump";
        ThumpEars ears = new ThumpEars();
        due(name + " without ears", make(ears, knock, 0, 0, 1), 0);
        due(name + ": an act", ears.count(9), 1);
        ears.bury(0);
        ears.bury(1000);
        int[][] bad = {{-1, 0, 1}, {1001, 0, 1}, {0, -1, 1}, {0, 100001, 1}, {0, 0, 0}, {0, 0, 1001}, {0, 0, -5}};
        for (int[] row : bad) {
            due(name + " out of range", make(ears, knock, row[0], row[1], row[2]), ThumpEars.BAD_VALUE);
        }
        due(name + ": no act", ears.count(9), 3);
        due(name + "(0, 100, 1000)", make(ears, knock, 0, 100, 1000), 2);
        due(name + "(0, 100, 999)", make(ears, knock, 0, 100, 999), 1);
        due(name + "(500, 100, 499)", make(ears, knock, 500, 100, 499), 0);
        due(name + "(1000, 99, 1)", make(ears, knock, 1000, 99, 1), ThumpEars.NOT_POSSIBLE);
        due(name + "(1001, 99, 1)", make(ears, knock, 1001, 99, 1), ThumpEars.BAD_VALUE);
        due("count(5)", ears.count(5), 100);
        for (int i = 4; i < 10; i++) {
            due(name + " " + i, make(ears, knock, 1000, 100000, 1), 1);
        }
        due("count of it", ears.count(knock ? 2 : 1), 10);
        due("count of the other", ears.count(knock ? 1 : 2), 0);
        due(name + " of an 11th", make(ears, knock, 0, 100000, 1), ThumpEars.FULL);
        due(name + " of an early 11th", make(ears, knock, 0, 99999, 1), ThumpEars.NOT_POSSIBLE);
        due(name + " of a bad 11th", make(ears, knock, 0, 99999, 0), ThumpEars.BAD_VALUE);
        due("the other one has room", make(ears, !knock, 0, 100000, 1), 1);
        due("heard before it was buried", ears.heard(knock, 0, 0), ThumpEars.NONE);
        due("heard", ears.heard(knock, 1, 1), 10000 + 100 + 3000);
        due("heard too far", ears.heard(knock, 2, 1), ThumpEars.NONE);
    }

    private static void timesOfBothTogether() {
        ThumpEars ears = new ThumpEars();
        due("thump(0, 50, 1)", ears.thump(0, 50, 1), 0);
        due("knock(0, 49, 1)", ears.knock(0, 49, 1), ThumpEars.NOT_POSSIBLE);
        due("knock(0, 60, 1)", ears.knock(0, 60, 1), 0);
        due("thump(0, 59, 1)", ears.thump(0, 59, 1), ThumpEars.NOT_POSSIBLE);
        due("count(5)", ears.count(5), 60);
        due("thump(0, 60, 1)", ears.thump(0, 60, 1), 0);
        due("undo()", ears.undo(), 2);
        due("undo()", ears.undo(), 1);
        due("count(5)", ears.count(5), 50);
        due("thump(0, 50, 1)", ears.thump(0, 50, 1), 0);
    }

    private static void reachAndPace() {
        ThumpEars ears = new ThumpEars();
        ears.bury(100);
        ears.bury(110);
        ears.bury(90);
        ears.setClock(1, 7, -1);
        due("reach below the way", ears.thump(100, 10, 9), 1);
        due("reach as the way", ears.thump(100, 10, 10), 3);
        due("heard(false, 1, 0)", ears.heard(false, 1, 0), 10010);
        // 10 + 30 + 7 and -40 / 10000, rounded down
        due("heard(false, 1, 1)", ears.heard(false, 1, 1), 10046);
        due("heard(false, 1, 2)", ears.heard(false, 1, 2), 10040);
        ears.set(0, 20);
        due("thump(109, 10, 1000)", ears.thump(109, 10, 1000), 3);
        due("heard(false, 2, 0)", ears.heard(false, 2, 0), 10190);
        due("heard(false, 2, 2)", ears.heard(false, 2, 2), 10390);
        ears.mute(2, true);
        due("a mute ear does not hear", ears.knock(100, 10, 1000), 2);
        due("heard(true, 0, 2)", ears.heard(true, 0, 2), ThumpEars.NONE);
    }

    private static void whatStays() {
        ThumpEars ears = new ThumpEars();
        ears.bury(0);
        ears.bury(100);
        ears.setClock(1, 20, 50);
        ears.thump(0, 1000, 1000);
        ears.knock(0, 2000, 1000);
        long heardThump = ears.heard(false, 0, 1);
        long spread = ears.spread(0, 0);
        due("heard(false, 0, 1)", heardThump, 10000 + 1300 + 20 + 6);
        due("mark(1, 0, 1)", ears.mark(1, 0, 1), 10026);
        ears.setClock(1, -20, -50);
        ears.set(0, 9);
        ears.mute(1, true);
        due("heard(false, 0, 1) stays", ears.heard(false, 0, 1), heardThump);
        due("mark(1, 0, 1) stays", ears.mark(1, 0, 1), 10026);
        due("spread(0, 0) stays", ears.spread(0, 0), spread);
        due("found(0, 3) stays", ears.found(0, 3), 2);
    }

    private static void promise8() {
        ThumpEars ears = new ThumpEars();
        ears.bury(0);
        ears.setClock(0, 50, 0);
        due("leaveOut(0, true) without thumps", ears.leaveOut(0, true), ThumpEars.UNKNOWN);
        ears.knock(0, 0, 1);
        due("a knock is no thump", ears.leaveOut(0, true), ThumpEars.UNKNOWN);
        ears.thump(0, 10, 1);
        ears.thump(0, 20, 1);
        due("leaveOut(-1, true)", ears.leaveOut(-1, true), ThumpEars.UNKNOWN);
        due("leaveOut(2, true)", ears.leaveOut(2, true), ThumpEars.UNKNOWN);
        due("leaveOut(0, false)", ears.leaveOut(0, false), ThumpEars.NONE);
        ears.undo();
        due("no act: count(9)", ears.count(9), 3);
        ears.thump(0, 20, 1);
        due("leaveOut(0, true)", ears.leaveOut(0, true), 1);
        due("leaveOut(0, true)", ears.leaveOut(0, true), ThumpEars.NONE);
        due("ear(0, 4)", ears.ear(0, 4), 1);
        due("mark(0, 0, 2)", ears.mark(0, 0, 2), 1);
        due("leaveOut(1, true)", ears.leaveOut(1, true), 2);
        due("ear(0, 4)", ears.ear(0, 4), 0);
        due("heard(false, 0, 0)", ears.heard(false, 0, 0), 10060);
        due("count(7)", ears.count(7), 2);
        due("leaveOut(0, false)", ears.leaveOut(0, false), 1);
        due("mark(0, 0, 2)", ears.mark(0, 0, 2), 0);
        due("an act: undo()", ears.undo(), 3);
        due("count(7)", ears.count(7), 2);
        ears.thump(0, 30, 1);
        due("a new thump is not left out", ears.count(7), 2);
        due("mark(0, 0, 2)", ears.mark(0, 0, 2), 2);
    }
}
