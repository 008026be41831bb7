/** Which marks count, and the error at readings ahead of all marks, between them, at them, and behind all. */
public final class MarksTest {
    public static void main(String[] args) {
        whichCount();
        whichCountWithThumpsLeftOut();
        whoGivesMarks();
        fewMarks();
        roundedDown();
        threeMarks();
        tenMarks();
        marksThatDoNotCountAreNoPair();
        leftOutBetween();
        putRight();
        Answers.end();
    }

    private static void due(String call, long got, long want) {
        Answers.due(call, got, want);
    }

    /** An ear with the readings, of thumps at the given times: each error is the reading less the time. */
    private static ThumpEars tuned(int[] readings, int[] times) {
        ThumpEars ears = new ThumpEars();
        ears.bury(0);
        for (int i = 0; i < readings.length; i++) {
            ears.setClock(0, readings[i] - times[i], 0);
            due("thump " + i, ears.thump(0, times[i], 1), 1);
        }
        return ears;
    }

    private static void counting(String name, ThumpEars ears, int[] readings, int[] times, int[] wants) {
        due(name + ": ear(0, 4)", ears.ear(0, 4), wants.length);
        for (int i = 0; i < wants.length; i++) {
            int thump = wants[i];
            due(name + ": the reading of mark " + i, ears.mark(0, i, 0), 10000 + readings[thump]);
            due(name + ": the error of mark " + i, ears.mark(0, i, 1), 10000 + readings[thump] - times[thump]);
            due(name + ": the thump of mark " + i, ears.mark(0, i, 2), thump);
        }
        for (int what = 0; what <= 2; what++) {
            due(name + ": no more marks", ears.mark(0, wants.length, what), ThumpEars.NONE);
        }
        int latest = wants.length == 0 ? ThumpEars.NONE : 10000 + readings[wants[wants.length - 1]];
        due(name + ": ear(0, 5)", ears.ear(0, 5), latest);
    }

    private static void whichCount() {
        int[][][] rows = {
            {{5}, {0}}, {{5, 6}, {0, 1}}, {{5, 5}, {0}}, {{5, 4}, {0}}, {{5, 4, 5}, {0}}, {{5, 4, 6}, {0, 2}},
            {{5, 5, 5}, {0}}, {{5, 5, 6}, {0, 2}}, {{5, 6, 6}, {0, 1}}, {{5, 6, 5}, {0, 1}}, {{5, 6, 5, 6, 7}, {0, 1, 4}},
            {{9, 1, 2, 3, 9, 10}, {0, 5}}, {{9, 1, 1, 1}, {0}}, {{5, 7, 6, 7, 8}, {0, 1, 4}},
            {{-3, -4, -3, -2}, {0, 3}}, {{-500, -499, -500, 500}, {0, 1, 3}}, {{0, -1, 0, 1}, {0, 3}},
            {{1, 2, 3, 4, 5, 6, 7, 8, 9, 10}, {0, 1, 2, 3, 4, 5, 6, 7, 8, 9}},
            {{10, 9, 8, 7, 6, 5, 4, 3, 2, 1}, {0}}, {{1, 1, 2, 2, 3, 3, 4, 4, 5, 5}, {0, 2, 4, 6, 8}},
            {{2, 1, 3, 2, 4, 3, 5, 4, 6, 5}, {0, 2, 4, 6, 8}}, {{9, 8, 7, 6, 5, 4, 3, 2, 1, 10}, {0, 9}},
        };
        for (int[][] row : rows) {
            String name = java.util.Arrays.toString(row[0]);
            int[] atOnce = new int[row[0].length];
            int[] oneByOne = new int[row[0].length];
            for (int i = 0; i < oneByOne.length; i++) {
                oneByOne[i] = i;
            }
            boolean inRange = row[0][0] != -500;
            counting(name + " at once", tuned(row[0], atOnce), row[0], atOnce, row[1]);
            if (inRange) {
                counting(name + " one by one", tuned(row[0], oneByOne), row[0], oneByOne, row[1]);
            }
        }
    }

    /** Marks of thumps that are left out are none: those behind them are not measured by them. */
    private static void whichCountWithThumpsLeftOut() {
        int[] readings = {30, 20, 20, 40, 25, 40, 50};
        int[] times = {1, 2, 3, 4, 5, 6, 7};
        int[][][] rows = {
            {{}, {0, 3, 6}}, {{0}, {1, 3, 6}}, {{0, 1}, {2, 3, 6}}, {{0, 1, 2}, {3, 6}}, {{3}, {0, 5, 6}},
            {{0, 3}, {1, 4, 5, 6}}, {{6}, {0, 3}}, {{3, 5, 6}, {0}}, {{0, 3, 5, 6}, {1, 4}},
            {{0, 1, 2, 3, 5, 6}, {4}}, {{0, 1, 2, 3, 4, 5, 6}, {}},
        };
        for (int[][] row : rows) {
            ThumpEars ears = tuned(readings, times);
            for (int thump : row[0]) {
                ears.leaveOut(thump, true);
            }
            String name = java.util.Arrays.toString(row[0]) + " left out";
            counting(name, ears, readings, times, row[1]);
            for (int thump : row[0]) {
                ears.leaveOut(thump, false);
            }
            counting(name + ", and not any more", ears, readings, times, new int[] {0, 3, 6});
        }
    }

    /** Only a thump gives a mark, and only to an ear that heard it. */
    private static void whoGivesMarks() {
        ThumpEars ears = new ThumpEars();
        ears.bury(0);
        ears.bury(40);
        due("a knock", ears.knock(0, 0, 1000), 2);
        due("a knock gives no mark", ears.ear(0, 4) + ears.ear(1, 4), 0);
        due("a thump that reaches one ear", ears.thump(0, 0, 39), 1);
        due("it gives the ear beyond no mark", ears.ear(1, 4), 0);
        ears.mute(0, true);
        due("a thump that one ear is mute to", ears.thump(0, 10, 1000), 1);
        ears.mute(0, false);
        due("it gives the mute ear no mark", ears.ear(0, 4), 1);
        due("mark(1, 0, 2)", ears.mark(1, 0, 2), 1);
        ears.bury(0);
        due("an ear that was buried later has no mark", ears.ear(2, 4), 0);
        due("a thump for all", ears.thump(0, 20, 40), 3);
        due("ear(0, 4)", ears.ear(0, 4), 2);
        due("ear(1, 4)", ears.ear(1, 4), 2);
        due("ear(2, 4)", ears.ear(2, 4), 1);
        ears.mute(1, true);
        due("a mute ear keeps its marks", ears.ear(1, 4), 2);
        // the truth is the time and the way by the pace of that time: 20 + 3 * 40
        ears.setClock(1, 300, 0);
        ears.set(0, 20);
        due("mark(1, 1, 0)", ears.mark(1, 1, 0), 10140);
        due("mark(1, 1, 1)", ears.mark(1, 1, 1), 10000);
        ears.mute(1, false);
        ears.thump(0, 30, 40);
        due("the pace of now: mark(1, 2, 0)", ears.mark(1, 2, 0), 10000 + 30 + 800 + 300);
        due("the pace of now: mark(1, 2, 1)", ears.mark(1, 2, 1), 10300);
    }

    private static void errors(String name, ThumpEars ears, long[][] rows) {
        for (long[] row : rows) {
            due(name + ": error(0, " + row[0] + ")", ears.error(0, (int) row[0]), row[1]);
        }
    }

    private static void fewMarks() {
        errors("none", tuned(new int[] {}, new int[] {}), new long[][] {{-10000, 0}, {0, 0}, {300000, 0}});
        errors("one of 0", tuned(new int[] {9}, new int[] {9}), new long[][] {{-10000, 0}, {9, 0}, {300000, 0}});
        errors("one below 0", tuned(new int[] {-500}, new int[] {0}),
            new long[][] {{-10000, -500000}, {-501, -500000}, {-500, -500000}, {-499, -500000}, {300000, -500000}});
        errors("one above 0", tuned(new int[] {500}, new int[] {0}),
            new long[][] {{-10000, 500000}, {499, 500000}, {500, 500000}, {501, 500000}, {300000, 500000}});
        errors("two of the same error", tuned(new int[] {-7, 3}, new int[] {0, 10}),
            new long[][] {{-10000, -7000}, {-8, -7000}, {-7, -7000}, {0, -7000}, {3, -7000}, {300000, -7000}});
        errors("two far apart", tuned(new int[] {-500, 500}, new int[] {0, 0}),
            new long[][] {{-10000, -10000000}, {-501, -501000}, {-500, -500000}, {-499, -499000}, {499, 499000},
                {500, 500000}, {501, 501000}, {300000, 300000000}});
    }

    /** The quotient is rounded towards lesser numbers, be it below or above 0. */
    private static void roundedDown() {
        errors("falling", tuned(new int[] {0, 3}, new int[] {0, 4}),
            new long[][] {{-10000, 3333333}, {-4, 1333}, {-3, 1000}, {-2, 666}, {-1, 333}, {0, 0}, {1, -334},
                {2, -667}, {3, -1000}, {4, -1334}, {5, -1667}, {6, -2000}, {300000, -100000000}});
        errors("rising", tuned(new int[] {0, 3}, new int[] {0, 2}),
            new long[][] {{-10000, -3333334}, {-4, -1334}, {-3, -1000}, {-2, -667}, {-1, -334}, {0, 0}, {1, 333},
                {2, 666}, {3, 1000}, {4, 1333}, {5, 1666}, {6, 2000}, {300000, 100000000}});
        errors("rising from below 0", tuned(new int[] {-7, 0}, new int[] {0, 6}),
            new long[][] {{-8, -7143}, {-7, -7000}, {-6, -6858}, {-1, -6143}, {0, -6000}, {1, -5858}});
        errors("falling to below 0", tuned(new int[] {3, 10}, new int[] {0, 14}),
            new long[][] {{2, 4000}, {3, 3000}, {4, 2000}, {9, -3000}, {10, -4000}, {11, -5000}});
        errors("a thousandth a tick", tuned(new int[] {0, 1000}, new int[] {0, 999}),
            new long[][] {{-1, -1}, {0, 0}, {1, 1}, {999, 999}, {1000, 1000}, {1001, 1001}});
        errors("less than a thousandth a tick", tuned(new int[] {0, 10000}, new int[] {0, 9999}),
            new long[][] {{-10, -1}, {-9, -1}, {-1, -1}, {0, 0}, {9, 0}, {10, 1}, {9999, 999}, {10000, 1000},
                {10009, 1000}, {10010, 1001}});
    }

    private static void threeMarks() {
        // (10, 0), (20, 5) and (40, -5): 500 a tick, and then 500 less a tick
        errors("three", tuned(new int[] {10, 20, 40}, new int[] {10, 15, 45}),
            new long[][] {{-10000, -5005000}, {0, -5000}, {9, -500}, {10, 0}, {11, 500}, {19, 4500}, {20, 5000},
                {21, 4500}, {39, -4500}, {40, -5000}, {41, -5500}, {50, -10000}, {300000, -149985000}});
    }

    private static void tenMarks() {
        // (0, 0), (10, 3), (20, 0), (30, 3), .. (90, 3): by turns 300 a tick, and 300 less a tick
        int[] readings = new int[10];
        int[] times = new int[10];
        for (int i = 0; i < 10; i++) {
            readings[i] = 10 * i;
            times[i] = 10 * i - (i % 2 == 0 ? 0 : 3);
        }
        ThumpEars ears = tuned(readings, times);
        for (int i = 0; i < 9; i++) {
            boolean rising = i % 2 == 0;
            errors("ten", ears, new long[][] {{10 * i, rising ? 0 : 3000}, {10 * i + 1, rising ? 300 : 2700},
                {10 * i + 5, 1500}, {10 * i + 9, rising ? 2700 : 300}});
        }
        errors("ten", ears, new long[][] {{90, 3000}, {91, 3300}, {100, 6000}, {-1, -300}, {-10, -3000}});
        ears.leaveOut(9, true);
        errors("nine", ears, new long[][] {{79, 300}, {80, 0}, {81, -300}, {90, -3000}});
        ears.leaveOut(0, true);
        errors("eight", ears, new long[][] {{10, 3000}, {9, 3300}, {0, 6000}, {11, 2700}});
    }

    private static void marksThatDoNotCountAreNoPair() {
        // (10, 0), and behind it (10, -2) and (8, -4), which do not count, and (20, 5)
        ThumpEars ears = tuned(new int[] {10, 10, 8, 20}, new int[] {10, 12, 12, 15});
        errors("two of four", ears, new long[][] {{8, -1000}, {9, -500}, {10, 0}, {15, 2500}, {20, 5000}, {21, 5500}});
        ears.leaveOut(0, true);
        errors("two of three", ears, new long[][] {{8, -3400}, {10, -2000}, {15, 1500}, {20, 5000}});
        ears.leaveOut(1, true);
        errors("two of two", ears, new long[][] {{7, -4750}, {8, -4000}, {15, 1250}, {20, 5000}});
        ears.leaveOut(3, true);
        errors("one of one", ears, new long[][] {{7, -4000}, {8, -4000}, {20, -4000}});
        ears.leaveOut(2, true);
        errors("none of four", ears, new long[][] {{7, 0}, {8, 0}, {20, 0}});
        ears.leaveOut(0, false);
        errors("the first alone", ears, new long[][] {{7, 0}, {8, 0}, {20, 0}});
        ears.leaveOut(0, true);
        ears.leaveOut(1, false);
        errors("the second alone", ears, new long[][] {{7, -2000}, {8, -2000}, {20, -2000}});
    }

    private static void leftOutBetween() {
        ThumpEars ears = tuned(new int[] {10, 20, 40}, new int[] {10, 15, 45});
        ears.leaveOut(1, true);
        // (10, 0) and (40, -5)
        errors("without the middle one", ears, new long[][] {{9, 166}, {10, 0}, {11, -167}, {20, -1667}, {25, -2500},
            {39, -4834}, {40, -5000}, {41, -5167}});
        ears.leaveOut(1, false);
        ears.leaveOut(0, true);
        errors("without the first one", ears, new long[][] {{0, 15000}, {10, 10000}, {20, 5000}, {40, -5000}});
        ears.leaveOut(0, false);
        ears.leaveOut(2, true);
        errors("without the last one", ears, new long[][] {{0, -5000}, {10, 0}, {20, 5000}, {40, 15000}});
    }

    /** Lets the ear read a number as a knock comes. */
    private static long right(ThumpEars ears, int reading) {
        int time = ears.count(5);
        ears.setClock(0, reading - time, 0);
        ears.knock(0, time, 1);
        return ears.putRight(ears.count(2) - 1, 0);
    }

    private static void putRight() {
        ThumpEars falling = tuned(new int[] {0, 3}, new int[] {0, 4});
        int[] readings = {-496, -1, 0, 1, 2, 3, 4, 5, 504};
        long[] wants = {-496000 - 165333, -1333, 0, 1334, 2667, 4000, 5334, 6667, 504000 + 168000};
        for (int i = 0; i < readings.length; i++) {
            due("falling: " + readings[i] + " put right", right(falling, readings[i]), wants[i]);
        }
        due("none: -500 put right", right(tuned(new int[] {}, new int[] {}), -500), -500000);
        ThumpEars one = tuned(new int[] {-500}, new int[] {0});
        due("one: -500 put right", right(one, -500), 0);
        due("one: 500 put right", right(one, 500), 1000000);
        due("one: -1 put right", right(one, -1), 499000);
        // marks of later thumps are used as well
        ThumpEars later = new ThumpEars();
        later.bury(0);
        due("later: 100 put right", right(later, 100), 100000);
        later.setClock(0, 40, 0);
        later.thump(0, 100, 1);
        due("later: putRight(0, 0)", later.putRight(0, 0), 60000);
        later.leaveOut(0, true);
        due("later, left out: putRight(0, 0)", later.putRight(0, 0), 100000);
    }
}
