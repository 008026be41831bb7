/** Promises 12 to 14: undo and the snapshot. */
public final class HistoryTest {
    public static void main(String[] args) {
        promise12();
        everyActIsUndone();
        promise13And14();
        anotherWayFromTheSameState();
        Answers.end();
    }

    private static void due(String call, long got, long want) {
        Answers.due(call, got, want);
    }

    private static void promise12() {
        ThumpEars ears = new ThumpEars();
        due("undo() of nothing", ears.undo(), ThumpEars.NONE);
        for (int i = 0; i < 7; i++) {
            ears.bury(i);
        }
        due("count(9)", ears.count(9), 4);
        for (int left = 3; left >= 0; left--) {
            due("undo()", ears.undo(), left);
            due("count(0)", ears.count(0), 3 + left);
            due("count(9)", ears.count(9), left);
        }
        due("undo() of no more", ears.undo(), ThumpEars.NONE);
        due("count(0)", ears.count(0), 3);
        due("ear(2, 0)", ears.ear(2, 0), 2);
        for (int i = 0; i < 4; i++) {
            due("bury again", ears.bury(100 + i), 3 + i);
        }
        due("undo()", ears.undo(), 3);
        due("undo()", ears.undo(), 2);
        due("ear(4, 0)", ears.ear(4, 0), 101);
        due("ear(5, 0)", ears.ear(5, 0), ThumpEars.UNKNOWN);
    }

    /** Leaves a string of which each part of the state is other than at first. */
    private static void use(ThumpEars ears) {
        ears.bury(10);
        ears.bury(600);
        ears.bury(900);
        ears.setClock(0, 40, 12);
        ears.setClock(2, -70, -9);
        ears.set(0, 4);
        ears.set(1, 9);
        ears.thump(500, 100, 1000);
        ears.knock(300, 300, 900);
        ears.thump(200, 5000, 1000);
        ears.mute(1, true);
        ears.leaveOut(1, true);
        ears.knock(310, 6000, 900);
    }

    private static int act(ThumpEars ears, int number) {
        switch (number) {
            case 0:
                return ears.bury(77);
            case 1:
                return ears.setClock(1, 3, 4);
            case 2:
                return ears.mute(0, true);
            case 3:
                return ears.mute(1, false);
            case 4:
                return ears.set(0, 11);
            case 5:
                return ears.set(1, 0);
            case 6:
                return ears.thump(444, 7000, 600);
            case 7:
                return ears.knock(444, 7000, 600);
            case 8:
                return ears.leaveOut(0, true);
            case 9:
                return ears.leaveOut(1, false);
            case 10:
                return ears.readOrders();
            default:
                return ears.restore();
        }
    }

    private static void everyActIsUndone() {
        for (int number = 0; number <= 11; number++) {
            int act = number;
            Answers.Run run = ears -> {
                use(ears);
                Answers.type(ears, "t5@7000;k7@8000*800");
                // the snapshot is that of another state than the one that is undone
                ears.keep();
                ears.knock(1, 6500, 500);
                ears.bury(55);
            };
            Answers.Run done = run.and(ears -> act(ears, act));
            String before = Answers.stateAfter(run);
            Answers.differs("act " + number + ": the state", Answers.stateAfter(done), before);
            Answers.same("act " + number + ": the state", Answers.stateAfter(done.and(ears -> ears.undo())), before);
            ThumpEars ears = Answers.after(run);
            due("act " + number + " is done", act(ears, number) >= 0 ? 1 : 0, 1);
            due("act " + number + ": count(9)", ears.count(9), 4);
            due("act " + number + ": undo()", ears.undo(), 3);
            due("act " + number + ": the text stays", ears.count(10), 19);
        }
    }

    private static void promise13And14() {
        ThumpEars ears = new ThumpEars();
        due("restore() without a snapshot", ears.restore(), ThumpEars.NONE);
        due("keep() of an empty string", ears.keep(), 0);
        due("keep() is no act", ears.count(9), 0);
        due("restore() of the same state", ears.restore(), 0);
        due("restore() is an act", ears.count(9), 1);
        Answers.Run kept = HistoryTest::use;
        Answers.Run later = kept.and(other -> {
            due("keep()", other.keep(), 4);
            other.thump(0, 50000, 10);
            other.bury(3);
            other.setClock(1, 9, 9);
            other.mute(1, false);
            other.leaveOut(1, false);
            other.set(0, 5);
            other.set(1, 5);
        });
        Answers.Run restored = later.and(other -> due("restore()", other.restore(), 4));
        Answers.same("the state of the snapshot", Answers.stateAfter(restored), Answers.stateAfter(kept));
        Answers.Run undone = restored.and(other -> due("undo() of restore()", other.undo(), 3));
        Answers.same("the state ahead of restore()", Answers.stateAfter(undone), Answers.stateAfter(later));
        Answers.Run again = undone.and(other -> {
            due("the snapshot stays", other.restore(), 4);
            other.knock(1, 60000, 10);
            due("restore() again", other.restore(), 4);
        });
        Answers.same("the snapshot that is used twice", Answers.stateAfter(again), Answers.stateAfter(kept));
        ThumpEars other = Answers.after(again);
        other.knock(1, 60000, 10);
        due("keep() in place of the one that was", other.keep(), 5);
        other.undo();
        due("undo() leaves the snapshot", other.restore(), 5);
    }

    /** What was kept and what came in its place differ in nothing but the values of the same rows. */
    private static void anotherWayFromTheSameState() {
        Answers.Run kept = ears -> {
            ears.bury(10);
            ears.bury(20);
            ears.setClock(0, 100, 9);
            ears.thump(30, 500, 1000);
            ears.keep();
        };
        Answers.Run other = kept.and(ears -> {
            for (int left = 3; left >= 0; left--) {
                due("back: undo()", ears.undo(), left);
            }
            ears.bury(990);
            ears.bury(980);
            ears.setClock(0, 101, 8);
            ears.set(0, 7);
            ears.thump(40, 600, 1000);
        });
        Answers.Run restored = other.and(ears -> due("back: restore()", ears.restore(), 1));
        Answers.same("back: what was kept", Answers.stateAfter(restored), Answers.stateAfter(kept));
        Answers.Run undone = restored.and(ears -> due("back: undo()", ears.undo(), 3));
        Answers.same("back: what came in its place", Answers.stateAfter(undone), Answers.stateAfter(other));
        Answers.Run knocks = ears -> {
            ears.bury(10);
            ears.bury(20);
            ears.knock(30, 500, 1000);
            ears.keep();
        };
        Answers.Run back = knocks.and(ears -> {
            ears.undo();
            ears.set(0, 2);
            ears.knock(15, 600, 1000);
            ears.restore();
        });
        Answers.same("knocks: what was kept", Answers.stateAfter(back), Answers.stateAfter(knocks));
    }
}
