/** Promises 20 to 25: what was heard, and from where a knock came. */
public final class HeardTest {
    public static void main(String[] args) {
        promise20();
        promise21();
        promise22();
        roundedTimes();
        lowestPlace();
        worstEar();
        tenEars();
        promise23();
        promise24();
        promise25();
        Answers.end();
    }

    private static void due(String call, long got, long want) {
        Answers.due(call, got, want);
    }

    private static void promise20() {
        ThumpEars ears = new ThumpEars();
        ears.bury(100);
        ears.bury(300);
        ears.setClock(1, -500, 0);
        ears.thump(100, 20, 199);
        ears.knock(100, 30, 200);
        ears.knock(299, 40, 1);
        due("heard(false, 0, 0)", ears.heard(false, 0, 0), 10020);
        due("heard(false, 0, 1)", ears.heard(false, 0, 1), ThumpEars.NONE);
        due("heard(true, 0, 0)", ears.heard(true, 0, 0), 10030);
        due("heard(true, 0, 1)", ears.heard(true, 0, 1), 10130);
        due("heard(true, 1, 0)", ears.heard(true, 1, 0), ThumpEars.NONE);
        due("heard(true, 1, 1)", ears.heard(true, 1, 1), 9543);
        due("heard(false, 1, 0)", ears.heard(false, 1, 0), ThumpEars.UNKNOWN);
        due("heard(true, 2, 0)", ears.heard(true, 2, 0), ThumpEars.UNKNOWN);
        due("heard(true, -1, 0)", ears.heard(true, -1, 0), ThumpEars.UNKNOWN);
        due("heard(true, 0, 2)", ears.heard(true, 0, 2), ThumpEars.UNKNOWN);
        due("heard(true, 0, -1)", ears.heard(true, 0, -1), ThumpEars.UNKNOWN);
        ears.bury(100);
        due("an ear that was buried later", ears.heard(true, 0, 2), ThumpEars.NONE);
    }

    private static void promise21() {
        ThumpEars ears = new ThumpEars();
        ears.bury(0);
        ears.bury(100);
        ears.setClock(0, 9, 0);
        ears.knock(0, 50, 99);
        due("putRight(-1, 0)", ears.putRight(-1, 0), Answers.LONG_UNKNOWN);
        due("putRight(1, 0)", ears.putRight(1, 0), Answers.LONG_UNKNOWN);
        due("putRight(0, -1)", ears.putRight(0, -1), Answers.LONG_UNKNOWN);
        due("putRight(0, 2)", ears.putRight(0, 2), Answers.LONG_UNKNOWN);
        due("putRight(0, 1)", ears.putRight(0, 1), Answers.LONG_NONE);
        due("putRight(0, 0) without marks", ears.putRight(0, 0), 59000);
        ears.thump(0, 60, 1);
        due("putRight(0, 0) with a later mark", ears.putRight(0, 0), 50000);
        ears.setClock(0, -490, 0);
        ears.thump(0, 652, 1);
        // marks (69, 9) and (162, -490): at 59, 10 behind the first, 9000 + 10 * 499000 / 93
        due("putRight(0, 0) with two marks", ears.putRight(0, 0), 59000 - (9000 + 53655));
        due("error(0, 59)", ears.error(0, 59), 9000 + 53655);
    }

    private static void promise22() {
        ThumpEars ears = new ThumpEars();
        ears.bury(0);
        ears.bury(1000);
        ears.bury(400);
        ears.knock(300, 100, 1000);
        ears.knock(300, 100, 300);
        ears.knock(600, 100, 100);
        due("found(-1, 9)", ears.found(-1, 9), Answers.LONG_UNKNOWN);
        due("found(3, 0)", ears.found(3, 0), Answers.LONG_UNKNOWN);
        due("found(0, -1)", ears.found(0, -1), Answers.LONG_BAD_VALUE);
        due("found(2, 6)", ears.found(2, 6), Answers.LONG_BAD_VALUE);
        int[] wants = {300, 100000, 0, 3, 1, 0};
        for (int what = 0; what <= 5; what++) {
            due("found(0, " + what + ")", ears.found(0, what), wants[what]);
        }
        due("found(1, 0)", ears.found(1, 0), 300);
        due("found(1, 3)", ears.found(1, 3), 2);
        for (int what = 0; what <= 5; what++) {
            due("found(2, " + what + ")", ears.found(2, what), what == 3 ? 0 : Answers.LONG_NOT_POSSIBLE);
        }
        ears.knock(500, 200, 100);
        due("one ear alone: found(3, 0)", ears.found(3, 0), Answers.LONG_NOT_POSSIBLE);
        due("one ear alone: found(3, 3)", ears.found(3, 3), 1);
        due("one ear alone: found(3, 4)", ears.found(3, 4), Answers.LONG_NOT_POSSIBLE);
        ears.set(0, 20);
        ears.mute(0, true);
        due("by the pace of the knock: found(0, 0)", ears.found(0, 0), 300);
        due("by the pace of the knock: found(0, 2)", ears.found(0, 2), 0);
        ears.knock(0, 300, 1000);
        ears.mute(0, false);
        ears.knock(1000, 300, 1000);
        due("beyond the ears: found(4, 0)", ears.found(4, 0), 0);
        due("beyond the ears: found(5, 0)", ears.found(5, 0), 1000);
    }

    /** Two ears of which one is late: no place makes the beginnings meet. */
    private static ThumpEars late(int ticks) {
        ThumpEars ears = new ThumpEars();
        ears.bury(500);
        ears.bury(500);
        ears.setClock(1, ticks, 0);
        ears.knock(500, 1000, 1000);
        return ears;
    }

    /** Two ears at a place, of which one has the marks (4, -3) and (7, -4), readings and errors. */
    private static ThumpEars drifting(int place, int ear) {
        ThumpEars ears = new ThumpEars();
        ears.bury(place);
        ears.bury(place);
        ears.setClock(ear, -3, 0);
        ears.thump(place, 7, 1);
        ears.setClock(ear, -4, 0);
        ears.thump(place, 11, 1);
        return ears;
    }

    private static void roundedTimes() {
        ThumpEars ears = late(5);
        due("late by 5: found(0, 0)", ears.found(0, 0), 0);
        due("late by 5: found(0, 2)", ears.found(0, 2), 5000);
        due("late by 5: found(0, 4)", ears.found(0, 4), 1);
        due("late by 5, both 2.5 from the middle: found(0, 5)", ears.found(0, 5), 0);
        due("late by 5: count(8)", ears.count(8), 1);
        ears.set(1, 4);
        due("the tolerance of now: found(0, 4)", ears.found(0, 4), 0);
        due("the tolerance of now: count(8)", ears.count(8), 0);
        due("late by 5: found(0, 1)", ears.found(0, 1), -500000 + 2500);
        ThumpEars zero = late(0);
        zero.set(1, 0);
        due("a tolerance of 0: found(0, 4)", zero.found(0, 4), 1);
        ThumpEars odd = drifting(0, 1);
        // the reading 8 is put right to 12333 + 1/3: the error is rounded down, and so this is rounded up
        odd.knock(0, 12, 1);
        due("odd: putRight(0, 1)", odd.putRight(0, 1), 12334);
        due("odd: putRight(0, 0)", odd.putRight(0, 0), 12000);
        due("odd: found(0, 1)", odd.found(0, 1), 12167);
        odd.setClock(1, -5, 0);
        odd.knock(0, 15, 1);
        // the reading 10 is put right to 15000, and 11 to 16333 + 1/3
        odd.setClock(1, -4, 0);
        odd.knock(0, 15, 1);
        due("odd: putRight(2, 1)", odd.putRight(2, 1), 16334);
        due("odd: found(1, 1)", odd.found(1, 1), 15000);
        due("odd: found(2, 1)", odd.found(2, 1), 15667);
        ThumpEars below = drifting(10, 1);
        below.setClock(1, -6, 0);
        below.setClock(0, 1, 0);
        below.knock(10, 15, 1);
        due("below 0: found(0, 0)", below.found(0, 0), 0);
        // beginnings 16000 - 30000 and 13667 - 30000: their sum is -30333
        due("below 0: found(0, 1)", below.found(0, 1), -15167);
    }

    private static void lowestPlace() {
        for (int place = 0; place <= 1000; place += place == 1 ? 998 : 1) {
            ThumpEars apart = new ThumpEars();
            apart.bury(0);
            apart.bury(1000);
            apart.knock(place, 0, 1000);
            due("the ends, " + place + ": truth(0, 2)", apart.truth(0, 2), 0);
            due("the ends, " + place + ": found(0, 0)", apart.found(0, 0), place);
            due("the ends, " + place + ": found(0, 2)", apart.found(0, 2), 0);
        }
        // of two ears at one place each place is as good as another; of two ears apart, all beyond one of them
        ThumpEars ears = new ThumpEars();
        ears.bury(300);
        ears.bury(700);
        ears.knock(900, 50, 1000);
        due("beyond: found(0, 0)", ears.found(0, 0), 700);
        due("beyond: found(0, 1)", ears.found(0, 1), 650000);
        due("beyond: found(0, 2)", ears.found(0, 2), 0);
        due("beyond: truth(0, 2)", ears.truth(0, 2), 200);
        ears.knock(100, 60, 1000);
        due("beyond: found(1, 0)", ears.found(1, 0), 0);
        due("beyond: found(1, 1)", ears.found(1, 1), 60000 + 300000 - 600000);
        due("beyond: truth(1, 2)", ears.truth(1, 2), 100);
        ThumpEars early = new ThumpEars();
        early.bury(1000);
        early.bury(1000);
        early.set(0, 20);
        early.setClock(0, -3, 0);
        early.setClock(1, -500, 0);
        early.knock(1000, 0, 1);
        due("below 0: found(0, 0)", early.found(0, 0), 0);
        due("below 0: found(0, 1)", early.found(0, 1), (-3000L - 500000L) / 2 - 20000000L);
        due("below 0: found(0, 2)", early.found(0, 2), 497000);
    }

    private static void worstEar() {
        ThumpEars ears = new ThumpEars();
        int[] places = {0, 500, 1000, 500};
        for (int place : places) {
            ears.bury(place);
        }
        ears.setClock(1, 40, 0);
        ears.knock(500, 100, 1000);
        // beginnings at 500: 100, 140, 100, 100; the spread of 40 is there at 494, too: 118, 122, 82, 82
        due("worst: found(0, 0)", ears.found(0, 0), 494);
        due("worst: found(0, 1)", ears.found(0, 1), 102000);
        due("worst: found(0, 2)", ears.found(0, 2), 40000);
        due("of several the lowest: found(0, 5)", ears.found(0, 5), 1);
        ears.mute(0, true);
        ears.knock(500, 100, 1000);
        due("an ear that did not hear it is not the worst: found(1, 5)", ears.found(1, 5) == 0 ? 1 : 0, 0);
        ThumpEars odd = drifting(0, 1);
        odd.setClock(1, -6, 0);
        odd.setClock(0, 1, 0);
        odd.knock(0, 15, 1);
        // the reading 9 of the second ear is put right to 13667 (rounded), that of the first, 16, to 16000
        due("odd: putRight(0, 1)", odd.putRight(0, 1), 13667);
        due("odd: found(0, 1)", odd.found(0, 1), 14833);
        due("odd: the rounded time is nearer to the lesser one: found(0, 5)", odd.found(0, 5), 0);
        ThumpEars other = drifting(0, 0);
        other.setClock(0, -6, 0);
        other.setClock(1, 1, 0);
        other.knock(0, 15, 1);
        due("other: found(0, 5)", other.found(0, 5), 1);
        ThumpEars three = new ThumpEars();
        int[] offsets = {5, 0, 10};
        for (int ear = 0; ear < 3; ear++) {
            three.bury(0);
            three.setClock(ear, offsets[ear], 0);
        }
        three.knock(0, 100, 1);
        due("an early one is as bad as a late one: found(0, 5)", three.found(0, 5), 1);
    }

    private static void tenEars() {
        ThumpEars ears = new ThumpEars();
        for (int ear = 0; ear < 10; ear++) {
            ears.bury(100 * ear);
        }
        ears.setClock(9, 30, 0);
        ears.thump(450, 0, 1000);
        for (int knock = 0; knock < 10; knock++) {
            due("ten ears hear", ears.knock(111 * knock, 1000 * knock, 1000), 10);
            due("ten ears: truth", ears.truth(knock, 2), knock == 9 ? 99 : 0);
        }
        due("ten ears: found(9, 3)", ears.found(9, 3), 10);
        due("ten ears: count(8)", ears.count(8), 10);
        for (int ear = 0; ear < 10; ear++) {
            long wayTime = 3000L * Math.abs(555 - 100 * ear);
            due("ten ears: putRight(5, " + ear + ")", ears.putRight(5, ear), 5000000 + wayTime);
            due("ten ears: ear(" + ear + ", 6)", ears.ear(ear, 6), 10);
            due("ten ears: mute", ears.mute(ear, true), ear + 1);
        }
        due("ten ears: count(6)", ears.count(6), 10);
        for (int thump = 1; thump < 10; thump++) {
            ears.thump(0, 9000, 1);
        }
        for (int thump = 0; thump < 10; thump++) {
            due("ten thumps: leaveOut", ears.leaveOut(thump, true), thump + 1);
        }
        due("ten thumps: count(7)", ears.count(7), 10);
        // the last ear is late by 30 then; at 883 and 895 that does not show for the knocks at 888 and 999
        due("without marks: found(8, 0)", ears.found(8, 0), 883);
        due("without marks: found(9, 0)", ears.found(9, 0), 895);
        due("without marks: count(8)", ears.count(8), 2);
    }

    private static void promise23() {
        ThumpEars ears = new ThumpEars();
        ears.bury(200);
        ears.bury(600);
        ears.bury(0);
        ears.knock(300, 10, 300);
        ears.knock(1000, 10, 400);
        ears.knock(1000, 10, 1);
        due("spread(-1, -1)", ears.spread(-1, -1), Answers.LONG_UNKNOWN);
        due("spread(3, 0)", ears.spread(3, 0), Answers.LONG_UNKNOWN);
        due("spread(0, -1)", ears.spread(0, -1), Answers.LONG_BAD_VALUE);
        due("spread(2, 1001)", ears.spread(2, 1001), Answers.LONG_BAD_VALUE);
        due("spread(1, 0)", ears.spread(1, 0), Answers.LONG_NOT_POSSIBLE);
        due("spread(2, 0)", ears.spread(2, 0), Answers.LONG_NOT_POSSIBLE);
        due("spread(0, 300)", ears.spread(0, 300), 0);
        due("spread(0, 301)", ears.spread(0, 301), 6000);
        due("spread(0, 299)", ears.spread(0, 299), 6000);
        // readings 310, 910 and 910; the ways are 200, 600, 0, and 800, 400, 1000
        due("spread(0, 0)", ears.spread(0, 0), 910000 + 890000);
        due("spread(0, 1000)", ears.spread(0, 1000), 2090000 - 290000);
        ears.set(0, 1);
        due("by the pace of the knock: spread(0, 300)", ears.spread(0, 300), 0);
        due("by the pace of the knock: spread(0, 301)", ears.spread(0, 301), 6000);
        ears.knock(400, 10, 200);
        due("two ears: found(3, 3)", ears.found(3, 3), 2);
        due("two ears: spread(3, 400)", ears.spread(3, 400), 0);
        due("two ears: spread(3, 410)", ears.spread(3, 410), 20000);
    }

    private static void promise24() {
        ThumpEars ears = late(9);
        due("truth(-1, 9)", ears.truth(-1, 9), ThumpEars.UNKNOWN);
        due("truth(1, 0)", ears.truth(1, 0), ThumpEars.UNKNOWN);
        due("truth(0, -1)", ears.truth(0, -1), ThumpEars.BAD_VALUE);
        due("truth(0, 3)", ears.truth(0, 3), ThumpEars.BAD_VALUE);
        due("truth(0, 0)", ears.truth(0, 0), 500);
        due("truth(0, 1)", ears.truth(0, 1), 1000);
        due("truth(0, 2)", ears.truth(0, 2), 500);
        ears.mute(0, true);
        ears.knock(7, 2000, 1000);
        due("truth(1, 0)", ears.truth(1, 0), 7);
        due("truth(1, 1)", ears.truth(1, 1), 2000);
        due("truth(1, 2)", ears.truth(1, 2), ThumpEars.NOT_POSSIBLE);
    }

    private static void promise25() {
        ThumpEars ears = new ThumpEars();
        due("count(-1)", ears.count(-1), ThumpEars.BAD_VALUE);
        due("count(11)", ears.count(11), ThumpEars.BAD_VALUE);
        ears.bury(0);
        ears.bury(100);
        ears.bury(200);
        ears.set(0, 6);
        ears.set(1, 0);
        ears.thump(50, 10, 1000);
        ears.thump(50, 20, 1000);
        ears.leaveOut(1, true);
        ears.knock(50, 30, 1000);
        ears.mute(2, true);
        ears.knock(50, 40, 1000);
        ears.setClock(1, 400, 0);
        ears.setClock(2, 1, 0);
        ears.mute(2, false);
        ears.knock(50, 40, 1000);
        ears.mute(1, true);
        ears.mute(2, true);
        ears.knock(50, 45, 1000);
        ears.type('t');
        int[] wants = {3, 2, 4, 6, 0, 45, 2, 1, 2, 4, 1};
        for (int what = 0; what < wants.length; what++) {
            due("count(" + what + ")", ears.count(what), wants[what]);
        }
    }
}
