/** Quotients that are rounded towards lesser numbers, and what lies next to a bound by a thousandth of a tick. */
public final class RoundingTest {
    public static void main(String[] args) {
        clocks();
        clocksOnArrival();
        greatestReadings();
        middles();
        middlesBelowZero();
        tolerances();
        Answers.end();
    }

    private static void due(String call, long got, long want) {
        Answers.due(call, got, want);
    }

    /** A drift, a time, and what the clock gains by then. */
    private static void clocks() {
        int[][] rows = {
            {1, 0, 0}, {1, 1, 0}, {1, 9999, 0}, {1, 10000, 1}, {1, 19999, 1}, {1, 20000, 2}, {1, 199999, 19},
            {1, 200000, 20}, {-1, 0, 0}, {-1, 1, -1}, {-1, 9999, -1}, {-1, 10000, -1}, {-1, 10001, -2},
            {-1, 20000, -2}, {-1, 20001, -3}, {-1, 199999, -20}, {-1, 200000, -20}, {50, 199, 0}, {50, 200, 1},
            {50, 399, 1}, {50, 400, 2}, {50, 200000, 1000}, {-50, 1, -1}, {-50, 200, -1}, {-50, 201, -2},
            {-50, 400, -2}, {-50, 401, -3}, {-50, 200000, -1000}, {7, 1428, 0}, {7, 1429, 1}, {-7, 1428, -1},
            {-7, 1429, -2}, {0, 200000, 0},
        };
        for (int[] row : rows) {
            for (int offset : new int[] {-500, -3, 0, 500}) {
                ThumpEars ears = new ThumpEars();
                ears.bury(0);
                ears.setClock(0, offset, row[0]);
                String name = "offset " + offset + ", drift " + row[0] + ": clock(0, " + row[1] + ")";
                due(name, ears.clock(0, row[1]), 10000 + row[1] + offset + row[2]);
            }
        }
    }

    /** The clock is read at the time of arrival: the drift of the way is in the reading. */
    private static void clocksOnArrival() {
        int[][] rows = {
            {1, 9700, 99, 9997}, {1, 9700, 100, 10001}, {-1, 9700, 99, 9996}, {-1, 9700, 100, 9999},
            {-1, 9701, 100, 9999}, {-1, 0, 0, 0}, {-1, 0, 1, 2}, {50, 0, 66, 198}, {50, 0, 67, 202},
        };
        for (int[] row : rows) {
            for (int place : new int[] {500 - row[2], 500 + row[2]}) {
                ThumpEars ears = new ThumpEars();
                ears.bury(500);
                ears.setClock(0, 0, row[0]);
                String name = "drift " + row[0] + ", from " + place + " at " + row[1];
                due(name, ears.thump(place, row[1], 1000), 1);
                due(name + ": heard(false, 0, 0)", ears.heard(false, 0, 0), 10000 + row[3]);
                due(name + ": mark(0, 0, 1)", ears.mark(0, 0, 1), 10000 + row[3] - row[1] - 3 * row[2]);
                ears.knock(place, row[1], 1000);
                due(name + ": heard(true, 0, 0)", ears.heard(true, 0, 0), 10000 + row[3]);
            }
        }
    }

    private static void greatestReadings() {
        for (int sign = -1; sign <= 1; sign += 2) {
            ThumpEars ears = new ThumpEars();
            ears.bury(1000);
            ears.set(0, 20);
            ears.setClock(0, 500 * sign, 50 * sign);
            ears.thump(1000, 0, 1);
            ears.thump(0, 100000, 1000);
            ears.knock(0, 100000, 1000);
            due("at 0: heard(false, 0, 0)", ears.heard(false, 0, 0), 10000 + 500 * sign);
            due("at 120000: heard(false, 1, 0)", ears.heard(false, 1, 0), 10000 + 120000 + 1100 * sign);
            due("at 120000: ear(0, 5)", ears.ear(0, 5), 10000 + 120000 + 1100 * sign);
            due("at 120000: mark(0, 1, 1)", ears.mark(0, 1, 1), 10000 + 1100 * sign);
            due("at 120000: putRight(0, 0)", ears.putRight(0, 0), 120000000);
        }
    }

    /**
     * Two ears at 335, of which the first has the marks (0, 0) and (1000, 1), by which c is put right to 999 * c, and
     * the second the marks (0, 0) and (999, 0), by which it is right: they read c and r as a knock comes.
     */
    private static ThumpEars two(int pace, int c, int r) {
        ThumpEars ears = new ThumpEars();
        ears.bury(335);
        ears.bury(335);
        ears.set(0, pace);
        ears.thump(335, 0, 1);
        ears.setClock(0, 1, 0);
        ears.thump(335, 999, 1);
        hear(ears, c, r);
        due("of " + c + ": putRight(0, 0)", ears.putRight(0, 0), 999L * c);
        due("of " + r + ": putRight(0, 1)", ears.putRight(0, 1), 1000L * r);
        return ears;
    }

    private static void hear(ThumpEars ears, int c, int r) {
        ears.setClock(0, c - 1100, 0);
        ears.setClock(1, r - 1100, 0);
        due("knock", ears.knock(335, 1100, 1), 2);
    }

    /** A pace, the readings, the time in the middle, and the worst ear, measured from the time as it is told. */
    private static void middle(int pace, int c, int r, long time, int worst) {
        ThumpEars ears = two(pace, c, r);
        String name = "pace " + pace + ", readings " + c + " and " + r;
        due(name + ": found(0, 0)", ears.found(0, 0), 0);
        due(name + ": found(0, 1)", ears.found(0, 1), time);
        due(name + ": found(0, 2)", ears.found(0, 2), Math.abs(999L * c - 1000L * r));
        due(name + ": found(0, 5)", ears.found(0, 5), worst);
    }

    private static void middles() {
        long way = 335000;
        // 999999 and 1001000: the middle is a half more than 1000499, and the first ear nearer to that
        middle(1, 1001, 1001, 1000499 - way, 1);
        // 999999 and 999000: the first ear has the greater beginning, and is farther from what is told
        middle(1, 1001, 999, 999499 - way, 0);
        // 999000 and 1000000: no rounding, and both are as far
        middle(1, 1000, 1000, 999500 - way, 0);
        middle(1, 1000, 998, 998500 - way, 0);
        middle(1, 1003, 1000, (1001997L + 1000000L - 1) / 2 - way, 0);
        middle(1, 999, 1000, (998001L + 1000000L - 1) / 2 - way, 1);
    }

    private static void middlesBelowZero() {
        long way = 6700000;
        // 999999 - 6700000 and 1001000 - 6700000: their sum is -11399001
        middle(20, 1001, 1001, -5699501, 1);
        middle(20, 1001, 999, 999499 - way, 0);
        middle(20, 1000, 1000, 999500 - way, 0);
        // 999999 and 1010000, each less 1005000: the sum is -1, and its half is rounded down to -1
        middle(3, 1001, 1010, -1, 1);
        // 998001 and 1012000, each less 1005000: the sum is 1, and its half is rounded down to 0
        middle(3, 999, 1012, 0, 1);
        // 1001997 and 1008000: the sum is -3
        middle(3, 1003, 1008, -2, 1);
        // 1005993 and 1004000: the sum is -7; the first ear has the greater beginning
        middle(3, 1007, 1004, -4, 0);
    }

    private static void fits(int c, int r, int tolerance, boolean want) {
        ThumpEars ears = two(3, c, r);
        ears.set(1, tolerance);
        String name = "readings " + c + " and " + r + ", tolerance " + tolerance;
        due(name + ": found(0, 4)", ears.found(0, 4), want ? 1 : 0);
        due(name + ": count(8)", ears.count(8), want ? 1 : 0);
    }

    /** A spread that is as great as the tolerance fits; a thousandth more does not. */
    private static void tolerances() {
        fits(1000, 1004, 5, true);
        fits(1000, 994, 5, true);
        fits(1001, 1005, 5, false);
        fits(999, 993, 5, false);
        fits(999, 1003, 5, true);
        fits(1000, 999, 0, true);
        fits(1001, 1000, 0, false);
        fits(999, 998, 0, false);
        fits(1000, 1000, 0, false);
        fits(1000, 1000, 1, true);
        fits(1000, 1499, 500, true);
        fits(1001, 1500, 500, false);
        fits(999, 1498, 500, true);
        fits(1000, 1500, 500, false);
        ThumpEars first = two(3, 1001, 1005);
        due("the tolerance at first: found(0, 4)", first.found(0, 4), 0);
        hear(first, 1000, 1004);
        due("the tolerance at first: found(1, 4)", first.found(1, 4), 1);
        due("the tolerance at first: count(8)", first.count(8), 1);
        first.set(1, 6);
        due("the tolerance of now: count(8)", first.count(8), 2);
        first.set(1, 4);
        due("the tolerance of now: count(8)", first.count(8), 0);
        first.undo();
        first.undo();
        due("the tolerance that is restored: count(8)", first.count(8), 1);
    }
}
