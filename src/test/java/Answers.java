/** Compares answers with those that are due, and ends a test with exit code 1 if one was not. */
final class Answers {
    static final long LONG_UNKNOWN = Long.MIN_VALUE + 1;
    static final long LONG_BAD_VALUE = Long.MIN_VALUE + 2;
    static final long LONG_NOT_POSSIBLE = Long.MIN_VALUE + 4;
    static final long LONG_NONE = Long.MIN_VALUE + 5;

    /** Calls on an object, which can be made once more on another one. */
    interface Run {
        void on(ThumpEars ears);

        default Run and(Run behind) {
            return ears -> {
                on(ears);
                behind.on(ears);
            };
        }
    }

    private static int asked = 0;
    private static int wrong = 0;

    private Answers() {
    }

    static void due(String call, long got, long want) {
        asked++;
        if (got != want) {
            wrong++;
            System.out.println(call + " answered " + got + ", due is " + want);
        }
    }

    static void type(ThumpEars ears, String text) {
        for (int i = 0; i < text.length(); i++) {
            ears.type(text.charAt(i));
        }
    }

    /** What the orders of a text answer when it is the only text of the string. */
    static int orders(ThumpEars ears, String text) {
        ears.clearText();
        type(ears, text);
        return ears.readOrders();
    }

    /** All that is told of the state that a run leaves behind (and not of text and history). */
    static String stateAfter(Run run) {
        StringBuilder told = new StringBuilder();
        // the document promises nothing after the 512th call of an object: so not all is asked of the same one
        for (int first = 0; first < 10; first += 4) {
            ThumpEars ears = after(run);
            for (int ear = first; ear < Math.min(first + 4, 10); ear++) {
                tellEar(ears, ear, told);
            }
        }
        tellKnocks(after(run), told);
        return told.toString();
    }

    static ThumpEars after(Run run) {
        ThumpEars ears = new ThumpEars();
        run.on(ears);
        return ears;
    }

    private static void tellEar(ThumpEars ears, int ear, StringBuilder told) {
        for (int what = 0; what <= 6; what++) {
            told.append(ears.ear(ear, what)).append(' ');
        }
        told.append(ears.clock(ear, 12345)).append(' ').append(ears.error(ear, 6789)).append(' ');
        for (int number = 0; number < 10; number++) {
            told.append(ears.heard(false, number, ear)).append(' ');
            told.append(ears.heard(true, number, ear)).append(' ');
            told.append(ears.mark(ear, number, 0)).append(' ');
            told.append(ears.mark(ear, number, 1)).append(' ');
            told.append(ears.mark(ear, number, 2)).append(' ');
            told.append(ears.putRight(number, ear)).append(' ');
        }
    }

    private static void tellKnocks(ThumpEars ears, StringBuilder told) {
        for (int what = 0; what <= 8; what++) {
            told.append(ears.count(what)).append(' ');
        }
        told.append(ears.stalest()).append(' ');
        for (int knock = 0; knock < 10; knock++) {
            for (int what = 0; what <= 5; what++) {
                told.append(ears.found(knock, what)).append(' ');
            }
            for (int what = 0; what <= 2; what++) {
                told.append(ears.truth(knock, what)).append(' ');
            }
            told.append(ears.spread(knock, 500)).append(' ');
        }
    }

    static void same(String what, String got, String want) {
        due(what + " is the same", got.equals(want) ? 1 : 0, 1);
    }

    static void differs(String what, String got, String other) {
        due(what + " is another one", got.equals(other) ? 0 : 1, 1);
    }

    static void end() {
        System.out.println(asked + " answers asked, " + wrong + " wrong");
        if (wrong != 0 || asked == 0) {
            System.exit(1);
        }
    }
}
