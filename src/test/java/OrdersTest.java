/** Promises 8 to 12: the order text. */
public final class OrdersTest {
    private static final Due DUE = new Due("OrdersTest");

    public static void main(String[] args) {
        typing();
        clearing();
        validTexts();
        firstErrors();
        everyCharacterAtEveryPlace();
        longTexts();
        impossibleOrders();
        invalidTexts();
        carryingOut();
        carryingOutIsOneAction();
        carryingOutNothing();
        DUE.end();
    }

    private static void typing() {
        QuadSnail x = new QuadSnail();
        for (int length = 1; length <= 80; length++) {
            char character = (char) (length * 811);
            DUE.is("8: type number " + length, x.type(character), length);
        }
        DUE.badState(x, "8: type beyond 80", () -> x.type('0'));
        DUE.badState(x, "8: type beyond 80 once more", () -> x.type((char) 65535));
        DUE.is("8: the text stays", x.clearText(), 80);
        DUE.is("8: type after clearing", x.type((char) 0), 1);
        DUE.is("8: no action", x.recordedStates(), 0);
    }

    private static void clearing() {
        QuadSnail x = new QuadSnail();
        DUE.is("9: clear nothing", x.clearText(), 0);
        Due.write(x, "0m;1m");
        DUE.is("9: clear", x.clearText(), 5);
        DUE.is("9: cleared", x.clearText(), 0);
        DUE.is("9: empty text is too short", x.textError(), 0);
        x.type('0');
        x.type('m');
        DUE.is("9: nothing of the old text is left", x.textError(), QuadSnail.NONE);
        DUE.is("9: one order", x.carryOut(), 1);
        DUE.is("9: carrying out clears nothing", x.clearText(), 2);
    }

    private static void error(String text, int due) {
        QuadSnail x = new QuadSnail();
        Due.write(x, text);
        DUE.is("10: textError of " + text, x.textError(), due);
        DUE.is("10: the text stays: " + text, x.clearText(), text.length());
    }

    private static void validTexts() {
        for (int snail = 0; snail < 4; snail++) {
            error(snail + "m", QuadSnail.NONE);
            for (int state = 0; state < 4; state++) {
                error(snail + ":" + state, QuadSnail.NONE);
                error(snail + ":" + state + "0" + state, QuadSnail.NONE);
            }
            for (int number = 1; number <= 16; number++) {
                error(snail + "b" + number, QuadSnail.NONE);
                error(snail + "b" + number + ";0m", QuadSnail.NONE);
            }
        }
        error("0m;1m;2b3;3:0123;0:0;1b16;1m", QuadSnail.NONE);
    }

    private static void firstErrors() {
        String[] texts = {"", "0", "0:", "0b", "0m;", "0:1;", "0b1;", "0b16;", "0m;3", "0m;3:", "0:123;2b"};
        for (String text : texts) {
            error(text, text.length());
        }
        error("4m", 0);
        error(";", 0);
        error("m", 0);
        error(" 0m", 0);
        error("00", 1);
        error("0;", 1);
        error("0M", 1);
        error("0:4", 2);
        error("0:;", 2);
        error("0:m", 2);
        error("0:0m", 3);
        error("0:12 ", 4);
        error("0:1;;", 4);
        error("0mm", 2);
        error("0m1", 2);
        error("0b0", 2);
        error("0b05", 2);
        error("0b;", 2);
        error("0b17", 3);
        error("0b20", 3);
        error("0b160", 4);
        error("0b100", 4);
        error("0b1m", 3);
        error("0b-1", 2);
        error("0m;4m", 3);
        error("0m,1m", 2);
        error("0:0;1b17;x", 7);
        error("0:\u0661", 2);
        error("\u0130m", 0);
        error("0" + (char) (':' + 256), 1);
        error("0m" + (char) 0, 2);
    }

    /** At each place, exactly the characters named are allowed. */
    private static void everyCharacterAtEveryPlace() {
        allowed("", "0123");
        allowed("2", ":mb");
        allowed("2:", "0123");
        allowed("2:3", "0123;");
        allowed("2m", ";");
        allowed("2b", "123456789");
        allowed("2b1", "0123456;");
        allowed("2b2", ";");
        allowed("2b9", ";");
        allowed("2b10", ";");
        allowed("2b16", ";");
        allowed("2m;", "0123");
        allowed("2b1;", "0123");
        allowed("2:3;", "0123");
    }

    private static void allowed(String before, String characters) {
        QuadSnail x = new QuadSnail();
        for (int number = 0; number < 65536; number++) {
            char character = (char) number;
            if (number > 300 && number < 65000 && number % 97 != 0) {
                continue;
            }
            Due.write(x, before);
            x.type(character);
            boolean isError = x.textError() == before.length();
            DUE.is("10: character " + number + " after " + before, isError ? 0 : 1,
                    characters.indexOf(character) >= 0 ? 1 : 0);
        }
    }

    private static void longTexts() {
        error("0:" + "0123".repeat(19) + "01", QuadSnail.NONE);
        error("0m;".repeat(26) + "0m", QuadSnail.NONE);
        error("0m;".repeat(26) + "0b", 80);
        error("0m;".repeat(26) + "0", 79);
        error("0:" + "0".repeat(77) + ";", 80);
        error("0:" + "0".repeat(77) + "x", 79);
    }

    private static void impossible(QuadSnail x, String text, int due) {
        Due.write(x, text);
        Object before = Due.read(x);
        DUE.is("11: impossibleOrder of " + text, x.impossibleOrder(), due);
        DUE.isSame("11: nothing changes by " + text, Due.read(x), before);
        if (due == QuadSnail.NONE) {
            return;
        }
        DUE.badState(x, "12: carryOut of " + text, () -> x.carryOut());
        DUE.is("12: the text stays as it is: " + text, x.clearText(), text.length());
    }

    private static void impossibleOrders() {
        QuadSnail x = new QuadSnail();
        impossible(x, "0b1", 0);
        impossible(x, "0m", QuadSnail.NONE);
        impossible(x, "0m;1m;2b1;3b1", 2);
        impossible(x, "0:1;0b1", QuadSnail.NONE);
        impossible(x, "0:1;0b2", 1);
        impossible(x, "0:1;1b1", 1);
        impossible(x, "0:1;0b1;0b1", 2);
        impossible(x, "0:1;0b1;0:0000;0b4", QuadSnail.NONE);
        impossible(x, "0:1;0b1;0:0000;0b5", 3);
        impossible(x, "3:0123012301230123;3b16;3b1", 2);
        impossible(x, "3:01230123012301230;3b16", QuadSnail.NONE);
        impossible(x, "3:01230123012301230;3b16;3b1", 2);
        impossible(x, "3:012301230123012;3b16", 1);
        impossible(x, "2:0123012301;2b10", QuadSnail.NONE);
        impossible(x, "2:012301230;2b10", 1);
        x.crawl(1, 5);
        impossible(x, "1b5", QuadSnail.NONE);
        impossible(x, "1b3;1b3", 1);
        impossible(x, "1b6", 0);
    }

    private static void invalidTexts() {
        for (String text : new String[] {"", "x", "0", "0m;", "0b", "0:1;0b17", "0b1x"}) {
            QuadSnail x = new QuadSnail();
            Due.write(x, text);
            DUE.badState(x, "11: impossibleOrder of " + text, () -> x.impossibleOrder());
            DUE.badState(x, "12: carryOut of " + text, () -> x.carryOut());
            DUE.is("12: the text stays: " + text, x.clearText(), text.length());
        }
    }

    private static void carryingOut() {
        QuadSnail x = new QuadSnail();
        x.setRule(QuadSnail.FOLLOW);
        x.setCounts(4);
        Due.write(x, "0:1320132;1:2;1:1;2b1;0b2;1m;3:3");
        DUE.badState(x, "12: its fourth order fails", () -> x.carryOut());
        DUE.is("11: the fourth", x.impossibleOrder(), 3);
        Due.write(x, "0:1320132;1:2;1:1;0b2;1m;3:3");
        DUE.is("12: carryOut", x.carryOut(), 6);
        DUE.is("12: position 0", x.positionOf(0), 5);
        DUE.is("12: state 0", x.stateOf(0), 1);
        DUE.is("12: log 0", x.logLength(0), 5);
        DUE.is("12: ticks 0", x.ticksOf(0), 9);
        DUE.is("12: distance 0", x.distanceOf(0), 9);
        DUE.is("12: direction 0", x.directionOf(0), -1);
        DUE.is("12: position 1", x.positionOf(1), -4);
        DUE.is("12: slips 1", x.slipsOf(1), 1);
        DUE.is("12: errors 1", x.errorsOf(1), 1);
        DUE.is("12: state 3", x.stateOf(3), 3);
        DUE.is("12: ticks 3", x.ticksOf(3), 1);
        DUE.is("12: the text stays", x.clearText(), 28);
        Due.write(x, "0b2;0b3");
        DUE.is("12: from now on", x.carryOut(), 2);
        DUE.is("12: there and back is zero", x.positionOf(0), 0);
        Due.write(x, "1:0;1b10");
        DUE.badState(x, "12: carryOut of b10 with too few", () -> x.carryOut());
        Due.write(x, "2:1320132013;2b10");
        DUE.is("12: a number of two digits", x.carryOut(), 2);
        DUE.is("12: its log", x.logLength(2), 0);
        DUE.is("12: its position", x.positionOf(2), 0);
        DUE.is("12: its distance", x.distanceOf(2), 20);
    }

    private static void carryingOutIsOneAction() {
        QuadSnail x = new QuadSnail();
        Due.write(x, "0:1320;1:13;2m;3:2");
        x.crawl(0, 3);
        Object before = Due.readState(x);
        DUE.is("12: four orders", x.carryOut(), 4);
        DUE.is("12: one action", x.recordedStates(), 2);
        DUE.is("12: undone at once", x.undo(), 1);
        DUE.isSame("12: what stood before", Due.readState(x), before);
        DUE.is("12: the text is no part of the state", x.carryOut(), 4);
    }

    private static void carryingOutNothing() {
        QuadSnail x = new QuadSnail();
        DUE.badState(x, "12: the empty text", () -> x.carryOut());
        DUE.badState(x, "11: the empty text", () -> x.impossibleOrder());
        DUE.is("12: nothing recorded", x.recordedStates(), 0);
    }
}
