import java.util.List;

/** At each place of a text of orders: each character that is allowed there, each that is not, and the text's end. */
public final class TextCharactersTest {
    private static final String DIGITS = "0123456789";
    private static final int LAST_SIGN = 300;

    /** The beginnings of texts, the characters that are allowed behind each, and whether the text may end there. */
    private static final Object[][] BEGINNINGS = {
        {"", "tk", false},
        {"t", DIGITS, false},
        {"k", DIGITS, false},
        {"t0", "@", false},
        {"t7", DIGITS + "@", false},
        {"k10", DIGITS + "@", false},
        {"t12345", DIGITS + "@", false},
        {"t123456", "@", false},
        {"t100000", "@", false},
        {"t0@", DIGITS, false},
        {"k123456@", DIGITS, false},
        {"t0@0", "*;", true},
        {"t1@7", DIGITS + "*;", true},
        {"k1@70", DIGITS + "*;", true},
        {"k1@12345", DIGITS + "*;", true},
        {"k1@999999", "*;", true},
        {"t0@0*", DIGITS, false},
        {"t1@123456*", DIGITS, false},
        {"t0@0*0", ";", true},
        {"t0@0*7", DIGITS + ";", true},
        {"t0@0*100", DIGITS + ";", true},
        {"t0@0*54321", DIGITS + ";", true},
        {"t0@0*654321", ";", true},
        {"t0@0;", "tk", false},
        {"t0@0*5;", "tk", false},
        {"k1@12;k", DIGITS, false},
        {"k1@12;t0", "@", false},
        {"k1@12*3;t30@", DIGITS, false},
        {"k1@12*3;t30@40", DIGITS + "*;", true},
        {"k1@12*3;t30@40*50", DIGITS + ";", true},
        {"k1@12*3;t30@40*50;", "tk", false},
    };

    public static void main(String[] args) {
        for (Object[] row : BEGINNINGS) {
            String beginning = (String) row[0];
            end(beginning, (boolean) row[2]);
            for (int sign = 0; sign <= LAST_SIGN; sign++) {
                next(beginning, (char) sign, ((String) row[1]).indexOf(sign) >= 0);
            }
        }
        ends();
        numbers();
        sixtyCharacters();
        typedAnew();
        Answers.end();
    }

    private static void due(String call, long got, long want) {
        Answers.due(call, got, want);
    }

    private static int orders(String text) {
        return Answers.orders(new ThumpEars(), text);
    }

    private static void end(String text, boolean allowed) {
        int answer = orders(text);
        if (allowed) {
            due("the end of \"" + text + "\" is no fault", answer > -100 ? 1 : 0, 1);
        } else {
            due("the end of \"" + text + "\"", answer, -100 - text.length());
        }
    }

    /** A fault behind the character, which the "!" is at the latest, tells that the character itself is allowed. */
    private static void next(String beginning, char sign, boolean allowed) {
        int place = beginning.length();
        String name = "\"" + beginning + "\" and the character " + (int) sign;
        due(name, orders(beginning + sign + "!"), allowed ? -100 - place - 1 : -100 - place);
        if (!allowed) {
            due(name + " at the end", orders(beginning + sign), -100 - place);
            due(name + " with an order behind it", orders(beginning + sign + "t1@2"), -100 - place);
        }
    }

    /** A text that is cut short ends too early, but for where an order may end. */
    private static void ends() {
        String text = "t12@34*56;k7@8;t0@90*1000";
        List<Integer> wholes = List.of(5, 6, 8, 9, 14, 19, 20, 22, 23, 24, 25);
        for (int length = 0; length <= text.length(); length++) {
            end(text.substring(0, length), wholes.contains(length));
        }
    }

    /** Numbers of six digits are no faults, be they out of range or not; those of seven are. */
    private static void numbers() {
        due("t1000@0", orders("t1000@0"), 1);
        due("t1001@0", orders("t1001@0"), ThumpEars.BAD_VALUE);
        due("t100000@0", orders("t100000@0"), ThumpEars.BAD_VALUE);
        due("t999999@0", orders("t999999@0"), ThumpEars.BAD_VALUE);
        due("t1000000@0", orders("t1000000@0"), -107);
        due("t0@100000", orders("t0@100000"), 1);
        due("t0@100001", orders("t0@100001"), ThumpEars.BAD_VALUE);
        due("t0@999999", orders("t0@999999"), ThumpEars.BAD_VALUE);
        due("t0@1000000", orders("t0@1000000"), -109);
        due("t0@0*1", orders("t0@0*1"), 1);
        due("t0@0*0", orders("t0@0*0"), ThumpEars.BAD_VALUE);
        due("t0@0*1000", orders("t0@0*1000"), 1);
        due("t0@0*1001", orders("t0@0*1001"), ThumpEars.BAD_VALUE);
        due("t0@0*999999", orders("t0@0*999999"), ThumpEars.BAD_VALUE);
        due("t0@0*1000000", orders("t0@0*1000000"), -111);
        due("t000@0", orders("t000@0"), -102);
        due("t0000001@0", orders("t0000001@0"), -102);
        due("t0@0*00", orders("t0@0*00"), -106);
        ThumpEars ears = new ThumpEars();
        ears.bury(0);
        ears.bury(1000);
        due("k0@9", Answers.orders(ears, "k0@9"), 1);
        due("a reach that is not told is 1000: found(0, 3)", ears.found(0, 3), 2);
        due("k0@98765*999;t987@98765*987", Answers.orders(ears, "k0@98765*999;t987@98765*987"), 2);
        due("found(1, 3)", ears.found(1, 3), 1);
        due("truth(1, 1)", ears.truth(1, 1), 98765);
        due("heard(false, 0, 0)", ears.heard(false, 0, 0), 10000 + 98765 + 3 * 987);
    }

    private static void sixtyCharacters() {
        String longest = "t1@1*1;k1@1*1;t1@1*1;k1@1*1;t1@1*1;k1@1*1;t1@1*1;k1@1*1;t1@1";
        due("the length of the longest text", longest.length(), 60);
        due("orders of 60 characters", orders(longest), 9);
        due("a fault at the last one", orders(longest.substring(0, 59) + "x"), -159);
        due("60 with another number", orders(longest.substring(0, 57) + "0@1"), 9);
        due("60 that end behind a \"@\"", orders(longest.substring(0, 57) + "10@"), -160);
        ThumpEars ears = new ThumpEars();
        Answers.type(ears, longest);
        due("type of a 61st", ears.type(';'), ThumpEars.FULL);
        due("count(10)", ears.count(10), 60);
        due("the 60 are read, without the 61st", ears.readOrders(), 9);
        due("clearText()", ears.clearText(), 60);
    }

    /** What was typed ahead of clearText() is none of the text any more. */
    private static void typedAnew() {
        ThumpEars ears = new ThumpEars();
        Answers.type(ears, "t5@10*20;k6@30");
        due("anew: clearText()", ears.clearText(), 14);
        due("anew: count(10)", ears.count(10), 0);
        due("anew: readOrders()", ears.readOrders(), -100);
        due("anew: type('k')", ears.type('k'), 1);
        due("anew: readOrders()", ears.readOrders(), -101);
        Answers.type(ears, "7@8");
        due("anew: readOrders()", ears.readOrders(), 1);
        due("anew: count(1)", ears.count(1), 0);
        due("anew: truth(0, 0)", ears.truth(0, 0), 7);
        Answers.type(ears, "9");
        due("typed behind what was read", ears.readOrders(), 1);
        due("anew: truth(1, 1)", ears.truth(1, 1), 89);
    }
}
