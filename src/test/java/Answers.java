/** Compares answers with those that are due, and ends a test with exit code 1 if one was not. */
final class Answers {
    static final long LONG_UNKNOWN = Long.MIN_VALUE + 1;
    static final long LONG_BAD_VALUE = Long.MIN_VALUE + 2;
    static final long LONG_NOT_POSSIBLE = Long.MIN_VALUE + 4;
    static final long LONG_NONE = Long.MIN_VALUE + 5;

    private static int asked = 0;
    private static int wrong = 0;

    private Answers() {
    }

    static void due(String call, long got, long want) {
        asked++;
        if (got != want) {
            wrong++;
            System.out.println(call + " answered " + got + ", due is " + want);
        }
    }

    static void type(ThumpEars ears, String text) {
        for (int i = 0; i < text.length(); i++) {
            ears.type(text.charAt(i));
        }
    }

    /** What the orders of a text answer when it is the only text of the string. */
    static int orders(ThumpEars ears, String text) {
        ears.clearText();
        type(ears, text);
        return ears.readOrders();
    }

    /** All that a string tells about its state (and not about text and history), in one number a call. */
    static String stateOf(ThumpEars ears) {
        StringBuilder told = new StringBuilder();
        for (int what = 0; what <= 8; what++) {
            told.append(ears.count(what)).append(' ');
        }
        for (int ear = 0; ear < 10; ear++) {
            for (int what = 0; what <= 6; what++) {
                told.append(ears.ear(ear, what)).append(' ');
            }
            for (int number = 0; number < 10; number++) {
                told.append(ears.heard(false, number, ear)).append(' ');
                told.append(ears.heard(true, number, ear)).append(' ');
                told.append(ears.mark(ear, number, 1)).append(' ');
                told.append(ears.mark(ear, number, 2)).append(' ');
                told.append(ears.putRight(number, ear)).append(' ');
            }
        }
        for (int knock = 0; knock < 10; knock++) {
            told.append(ears.truth(knock, 0)).append(' ').append(ears.truth(knock, 1)).append(' ');
            told.append(ears.spread(knock, 500)).append(' ');
        }
        return told.toString();
    }

    static void same(String what, String got, String want) {
        due(what, got.equals(want) ? 1 : 0, 1);
    }

    static void end() {
        System.out.println(asked + " answers asked, " + wrong + " wrong");
        if (wrong != 0 || asked == 0) {
            System.exit(1);
        }
    }
}
