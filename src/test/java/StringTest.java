/** Promises 1 to 5: a new object, and the calls of the string. */
public final class StringTest {
    public static void main(String[] args) {
        promise1();
        promise2();
        promise3();
        promise4();
        promise5();
        Answers.end();
    }

    private static void due(String call, long got, long want) {
        Answers.due(call, got, want);
    }

    private static void promise1() {
        ThumpEars ears = new ThumpEars();
        int[] counts = {0, 0, 0, 3, 5, 0, 0, 0, 0, 0, 0};
        for (int what = 0; what < counts.length; what++) {
            due("new: count(" + what + ")", ears.count(what), counts[what]);
        }
        due("new: ear(0, 0)", ears.ear(0, 0), ThumpEars.UNKNOWN);
        due("new: stalest()", ears.stalest(), ThumpEars.NONE);
        due("new: undo()", ears.undo(), ThumpEars.NONE);
        due("new: restore()", ears.restore(), ThumpEars.NONE);
        due("new: heard(false, 0, 0)", ears.heard(false, 0, 0), ThumpEars.UNKNOWN);
        due("new: found(0, 0)", ears.found(0, 0), Answers.LONG_UNKNOWN);
        due("new: clearText()", ears.clearText(), 0);
        ThumpEars other = new ThumpEars();
        other.bury(5);
        due("objects are apart: count(0)", ears.count(0), 0);
    }

    private static void promise2() {
        ThumpEars ears = new ThumpEars();
        due("bury(-1)", ears.bury(-1), ThumpEars.BAD_VALUE);
        due("bury(1001)", ears.bury(1001), ThumpEars.BAD_VALUE);
        due("bury(least int)", ears.bury(Integer.MIN_VALUE), ThumpEars.BAD_VALUE);
        due("no act: count(9)", ears.count(9), 0);
        int[] places = {0, 1000, 7, 7, 500, 1, 999, 3, 250, 10};
        for (int i = 0; i < places.length; i++) {
            due("bury(" + places[i] + ")", ears.bury(places[i]), i);
            due("count(0)", ears.count(0), i + 1);
            due("an act: count(9)", ears.count(9), Math.min(i + 1, 4));
        }
        due("bury of an 11th", ears.bury(5), ThumpEars.FULL);
        due("bury of a bad 11th", ears.bury(1001), ThumpEars.BAD_VALUE);
        for (int i = 0; i < places.length; i++) {
            due("ear(" + i + ", 0)", ears.ear(i, 0), places[i]);
            due("ear(" + i + ", 1)", ears.ear(i, 1), 0);
            due("ear(" + i + ", 2)", ears.ear(i, 2), 1000);
            due("ear(" + i + ", 3)", ears.ear(i, 3), 1000);
        }
        due("ear(10, 0)", ears.ear(10, 0), ThumpEars.UNKNOWN);
        newEarAmongOthers();
    }

    /** An ear is not mute at first, and its clock is right, whatever has become of the other ones. */
    private static void newEarAmongOthers() {
        ThumpEars ears = new ThumpEars();
        for (int ear = 0; ear < 10; ear++) {
            due("among others: bury", ears.bury(900), ear);
            int[] wants = {900, 0, 1000, 1000, 0, ThumpEars.NONE, 0};
            for (int what = 0; what < wants.length; what++) {
                due("among others: ear(" + ear + ", " + what + ")", ears.ear(ear, what), wants[what]);
            }
            due("among others: clock", ears.clock(ear, 200000), 210000);
            due("among others: setClock", ears.setClock(ear, -500, 50), 1);
            ears.thump(900, 10 * ear, 1);
            ears.knock(900, 10 * ear, 1);
            due("among others: count(6)", ears.count(6), ear);
            due("among others: mute", ears.mute(ear, true), ear + 1);
        }
    }

    private static void promise3() {
        ThumpEars ears = new ThumpEars();
        due("setClock without ears", ears.setClock(0, 0, 0), ThumpEars.UNKNOWN);
        ears.bury(5);
        ears.bury(6);
        due("setClock(-1, 501, 0)", ears.setClock(-1, 501, 0), ThumpEars.UNKNOWN);
        due("setClock(2, 0, 51)", ears.setClock(2, 0, 51), ThumpEars.UNKNOWN);
        due("setClock(0, 501, 0)", ears.setClock(0, 501, 0), ThumpEars.BAD_VALUE);
        due("setClock(0, -501, 0)", ears.setClock(0, -501, 0), ThumpEars.BAD_VALUE);
        due("setClock(0, 0, 51)", ears.setClock(0, 0, 51), ThumpEars.BAD_VALUE);
        due("setClock(0, 0, -51)", ears.setClock(0, 0, -51), ThumpEars.BAD_VALUE);
        due("setClock(0, 0, 0)", ears.setClock(0, 0, 0), ThumpEars.NONE);
        due("no act: count(9)", ears.count(9), 2);
        due("setClock(0, 500, -50)", ears.setClock(0, 500, -50), 1);
        due("an act: count(9)", ears.count(9), 3);
        due("setClock(0, 500, -50)", ears.setClock(0, 500, -50), ThumpEars.NONE);
        due("setClock(0, 500, 50)", ears.setClock(0, 500, 50), 1);
        due("setClock(0, -500, 50)", ears.setClock(0, -500, 50), 1);
        due("ear(0, 2)", ears.ear(0, 2), 500);
        due("ear(0, 3)", ears.ear(0, 3), 1050);
        due("ear(1, 2)", ears.ear(1, 2), 1000);
        due("ear(1, 3)", ears.ear(1, 3), 1000);
    }

    private static void promise4() {
        ThumpEars ears = new ThumpEars();
        due("mute(0, true) without ears", ears.mute(0, true), ThumpEars.UNKNOWN);
        ears.bury(1);
        ears.bury(2);
        ears.bury(3);
        due("mute(-1, true)", ears.mute(-1, true), ThumpEars.UNKNOWN);
        due("mute(3, true)", ears.mute(3, true), ThumpEars.UNKNOWN);
        due("mute(1, false)", ears.mute(1, false), ThumpEars.NONE);
        due("no act: count(9)", ears.count(9), 3);
        due("mute(1, true)", ears.mute(1, true), 1);
        due("an act: count(9)", ears.count(9), 4);
        due("mute(1, true)", ears.mute(1, true), ThumpEars.NONE);
        due("mute(2, true)", ears.mute(2, true), 2);
        due("count(6)", ears.count(6), 2);
        due("mute(1, false)", ears.mute(1, false), 1);
        due("ear(1, 1)", ears.ear(1, 1), 0);
        due("ear(2, 1)", ears.ear(2, 1), 1);
        due("count(6)", ears.count(6), 1);
    }

    private static void promise5() {
        ThumpEars ears = new ThumpEars();
        due("set(-1, 3)", ears.set(-1, 3), ThumpEars.BAD_VALUE);
        due("set(2, 3)", ears.set(2, 3), ThumpEars.BAD_VALUE);
        due("set(0, 0)", ears.set(0, 0), ThumpEars.BAD_VALUE);
        due("set(0, 21)", ears.set(0, 21), ThumpEars.BAD_VALUE);
        due("set(1, -1)", ears.set(1, -1), ThumpEars.BAD_VALUE);
        due("set(1, 501)", ears.set(1, 501), ThumpEars.BAD_VALUE);
        due("set(0, 3)", ears.set(0, 3), ThumpEars.NONE);
        due("set(1, 5)", ears.set(1, 5), ThumpEars.NONE);
        due("no act: count(9)", ears.count(9), 0);
        due("set(0, 20)", ears.set(0, 20), 3);
        due("an act: count(9)", ears.count(9), 1);
        due("count(3)", ears.count(3), 20);
        due("count(4)", ears.count(4), 5);
        due("set(0, 1)", ears.set(0, 1), 20);
        due("set(1, 500)", ears.set(1, 500), 5);
        due("set(1, 0)", ears.set(1, 0), 500);
        due("an act: count(9)", ears.count(9), 4);
        due("set(1, 7)", ears.set(1, 7), 0);
        due("count(3)", ears.count(3), 1);
        due("count(4)", ears.count(4), 7);
    }
}
