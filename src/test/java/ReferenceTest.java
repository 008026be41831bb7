/** Long runs of calls, the same ones each time, whose answers are compared with those of the reference. */
public final class ReferenceTest {
    private static final int RUNS = 500;
    /** The document promises nothing about later calls. */
    private static final int CALLS = 512;
    /** So many calls at most are made for one text. */
    private static final int CALLS_OF_TEXT = 80;
    private static final String SIGNS = "tk@*;0123456789x";

    private long seed;
    private final ThumpEars ears = new ThumpEars();
    private final Reference reference = new Reference();
    /** Most times of a run go on from here, so that some thumps come too early, and most do not. */
    private int clock = 0;
    private int calls = 0;
    private final int greatestStep;

    private ReferenceTest(int run) {
        seed = 1000003L * run + 17;
        greatestStep = run % 3 == 0 ? 40 : run % 3 == 1 ? 6000 : 2;
    }

    public static void main(String[] args) {
        for (int run = 0; run < RUNS; run++) {
            ReferenceTest test = new ReferenceTest(run);
            while (test.calls < CALLS) {
                test.call("run " + run + ", call " + test.calls + ": ");
            }
        }
        Answers.end();
    }

    private int upTo(int bound) {
        seed = seed * 6364136223846793005L + 1442695040888963407L;
        return (int) ((seed >>> 33) % (bound + 1));
    }

    /** Mostly within the range, at its ends more often than by chance, and now and then beside it. */
    private int within(int least, int greatest) {
        switch (upTo(24)) {
            case 0:
                return least;
            case 1:
                return greatest;
            case 2:
                return upTo(3) == 0 ? least - 1 : least + upTo(Math.min(3, greatest - least));
            case 3:
                return upTo(3) == 0 ? greatest + 1 : greatest - upTo(Math.min(3, greatest - least));
            default:
                return least + upTo(greatest - least);
        }
    }

    private int ear() {
        return within(0, Math.max(0, reference.count(0) - 1));
    }

    private int number(int what) {
        return within(0, Math.max(0, reference.count(what) - 1));
    }

    private int time() {
        if (upTo(40) == 0) {
            return within(0, 100000);
        }
        clock = Math.max(reference.count(5) - (upTo(12) == 0 ? 1 : 0), 0) + upTo(greatestStep);
        return clock;
    }

    private int reach() {
        return upTo(1) == 0 ? 1000 : within(1, 1000);
    }

    /** Each comparison is of one call on the object. */
    private void due(String call, long got, long want) {
        calls++;
        Answers.due(call, got, want);
    }

    private void call(String where) {
        int kind = upTo(99);
        if (kind < 45) {
            act(where, kind);
        } else if (kind < 52 && calls <= CALLS - CALLS_OF_TEXT) {
            text(where);
        } else {
            ask(where, kind);
        }
    }

    private void act(String where, int kind) {
        int a = ear();
        boolean is = upTo(1) == 0;
        if (kind < 6) {
            int place = within(0, 1000);
            due(where + "bury", ears.bury(place), reference.bury(place));
        } else if (kind < 12) {
            int offset = upTo(1) == 0 ? within(-500, 500) : within(-4, 4);
            int drift = within(-50, 50);
            due(where + "setClock", ears.setClock(a, offset, drift), reference.setClock(a, offset, drift));
        } else if (kind < 15) {
            due(where + "mute", ears.mute(a, is), reference.mute(a, is));
        } else if (kind < 17) {
            int what = within(0, 1);
            int value = within(what == 0 ? 1 : 0, what == 0 ? 20 : 500);
            due(where + "set", ears.set(what, value), reference.set(what, value));
        } else if (kind < 25) {
            int place = within(0, 1000);
            int time = time();
            int reach = reach();
            due(where + "thump", ears.thump(place, time, reach), reference.thump(place, time, reach));
        } else if (kind < 33) {
            int place = within(0, 1000);
            int time = time();
            int reach = reach();
            due(where + "knock", ears.knock(place, time, reach), reference.knock(place, time, reach));
        } else if (kind < 37) {
            int thump = number(1);
            due(where + "leaveOut", ears.leaveOut(thump, is), reference.leaveOut(thump, is));
        } else if (kind < 42) {
            due(where + "undo", ears.undo(), reference.undo());
        } else if (kind < 43) {
            due(where + "keep", ears.keep(), reference.keep());
        } else {
            due(where + "restore", ears.restore(), reference.restore());
        }
    }

    private void text(String where) {
        if (upTo(3) == 0) {
            type(where, SIGNS.charAt(upTo(SIGNS.length() - 1)));
            due(where + "readOrders", ears.readOrders(), reference.readOrders());
            return;
        }
        due(where + "clearText", ears.clearText(), reference.clearText());
        StringBuilder text = new StringBuilder();
        int orders = 1 + upTo(3);
        int time = time();
        for (int i = 0; i < orders; i++) {
            text.append(i == 0 ? "" : ";").append(upTo(1) == 0 ? 't' : 'k').append(within(0, 1000)).append('@');
            text.append(time);
            time += upTo(3) - (upTo(9) == 0 ? 1 : 0);
            text.append(upTo(2) == 0 ? "*" + reach() : "");
        }
        if (upTo(3) == 0) {
            text.setCharAt(upTo(text.length() - 1), SIGNS.charAt(upTo(SIGNS.length() - 1)));
        }
        for (int i = 0; i < text.length(); i++) {
            type(where, text.charAt(i));
        }
        due(where + "readOrders of " + text, ears.readOrders(), reference.readOrders());
    }

    private void type(String where, char sign) {
        due(where + "type", ears.type(sign), reference.type(sign));
    }

    private void ask(String where, int kind) {
        int a = ear();
        int knock = number(2);
        if (kind < 57) {
            int what = within(0, 6);
            due(where + "ear", ears.ear(a, what), reference.ear(a, what));
        } else if (kind < 60) {
            int time = within(0, 200000);
            due(where + "clock", ears.clock(a, time), reference.clock(a, time));
        } else if (kind < 65) {
            int mark = within(0, 4);
            int what = within(0, 2);
            due(where + "mark", ears.mark(a, mark, what), reference.mark(a, mark, what));
        } else if (kind < 72) {
            int nearLatest = Math.max(0, reference.ear(a, 5) - 10000) + within(-9, 9);
            int reading = upTo(1) == 0 ? within(-10000, 300000) : nearLatest;
            due(where + "error", ears.error(a, reading), reference.error(a, reading));
        } else if (kind < 75) {
            due(where + "stalest", ears.stalest(), reference.stalest());
        } else if (kind < 79) {
            boolean knocks = upTo(1) == 0;
            int number = number(knocks ? 2 : 1);
            due(where + "heard", ears.heard(knocks, number, a), reference.heard(knocks, number, a));
        } else if (kind < 82) {
            due(where + "putRight", ears.putRight(knock, a), reference.putRight(knock, a));
        } else if (kind < 90) {
            int what = within(0, 5);
            due(where + "found", ears.found(knock, what), reference.found(knock, what));
        } else if (kind < 93) {
            int place = within(0, 1000);
            due(where + "spread", ears.spread(knock, place), reference.spread(knock, place));
        } else if (kind < 95) {
            int what = within(0, 2);
            due(where + "truth", ears.truth(knock, what), reference.truth(knock, what));
        } else {
            int what = within(0, 10);
            due(where + "count", ears.count(what), reference.count(what));
        }
    }
}
