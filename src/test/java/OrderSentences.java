/** Promises 8 to 12, sentence by sentence. */
final class OrderSentences {
    private static final int NONE = QuadSnail.NONE;

    private final Sentences s;

    private OrderSentences(Sentences s) {
        this.s = s;
    }

    static void tell(Sentences s) {
        OrderSentences told = new OrderSentences(s);
        told.type();
        told.clearText();
        told.textError();
        told.orderTerms();
        told.numberTerms();
        told.firstErrorTerms();
        told.impossibleOrder();
        told.carryOut();
        told.carryOutStates();
        told.carryOutRefused();
    }

    private static QuadSnail full() {
        return Sentences.typed("0m;".repeat(26) + "0m");
    }

    private void type() {
        s.promise(8, "Appends a character to the order text.");
        QuadSnail x = new QuadSnail();
        x.type('3');
        s.is("textError() of 3", x.textError(), 1);
        x.type('m');
        s.is("textError() of 3m", x.textError(), NONE);
        x.type('m');
        s.is("textError() of 3mm", x.textError(), 2);
        s.is("recordedStates(), as this is no action", x.recordedStates(), 0);
        s.promise(8, "- `character`: any character");
        QuadSnail y = new QuadSnail();
        int[] characters = {0, 1, 9, 10, 13, 32, '0', ';', 127, 128, 233, 255, 256, 0x2028, 0xD800, 0xDFFF, 0xFFFE,
            0xFFFF};
        for (int number = 0; number < characters.length; number++) {
            s.is("type of character " + characters[number], y.type((char) characters[number]), number + 1);
        }
        s.promise(8, "Returns the length of the text afterwards.");
        QuadSnail z = new QuadSnail();
        for (int length = 1; length <= 80; length++) {
            s.is("type number " + length, z.type('1'), length);
        }
        s.promise(8, "Throws `IllegalStateException` if the text has 80 characters");
        s.is("the 80th character", Sentences.typed("0m;".repeat(26) + "0").type('m'), 80);
        s.refused("the 81st character", Sentences.STATE, OrderSentences::full, q -> q.type(';'));
        QuadSnail w = full();
        w.clearText();
        s.is("the first character after clearText()", w.type('x'), 1);
        s.term(8, "The order text has at most 80 characters and is empty at first.");
        s.is("clearText() of a new object", new QuadSnail().clearText(), 0);
        s.is("textError() of a new object", new QuadSnail().textError(), 0);
        s.is("textError() of 80 characters", full().textError(), NONE);
        s.is("clearText() of 80 characters", full().clearText(), 80);
        s.refused("one more than 80", Sentences.STATE, OrderSentences::full, q -> q.type('0'));
    }

    private void clearText() {
        s.promise(9, "Empties the order text.");
        QuadSnail x = full();
        x.clearText();
        s.is("textError()", x.textError(), 0);
        s.is("type('2') into the emptied text", x.type('2'), 1);
        s.is("textError() of 2", x.textError(), 1);
        x.type('m');
        s.is("carryOut() of 2m", x.carryOut(), 1);
        x.clearText();
        s.is("recordedStates(), as clearText() is no action", x.recordedStates(), 1);
        s.promise(9, "Returns the length that it had.");
        s.is("of an empty text", new QuadSnail().clearText(), 0);
        s.is("of one character", Sentences.typed("x").clearText(), 1);
        QuadSnail y = full();
        s.is("of a full text", y.clearText(), 80);
        s.is("of the text just emptied", y.clearText(), 0);
    }

    private void error(String text, int due) {
        s.is("textError() of " + text, Sentences.typed(text).textError(), due);
    }

    private void textError() {
        s.promise(10, "Finds the first error of the order text.");
        error("0m;0x;0y", 4);
        error("x0m;y", 0);
        QuadSnail x = Sentences.typed("0m");
        x.textError();
        s.is("the text is left as it is", x.clearText(), 2);
        s.is("recordedStates(), as this is no action", x.recordedStates(), 0);
        s.promise(10, "Returns its index; NONE if the text is valid.");
        error("m", 0);
        error("0m0", 2);
        error("0m", NONE);
        error("0:0", NONE);
        error("3b16", NONE);
        error("0m;".repeat(25) + "0m;xx", 78);
        error("0m;".repeat(26) + "0x", 79);
        error("0m;".repeat(26) + "0m", NONE);
    }

    private void orderTerms() {
        s.term(10, "A valid text consists of one or more orders with \";\" between two of them:");
        error("0m", NONE);
        error("0m;1m", NONE);
        error("0:1;0b1;0m", NONE);
        error(";0m", 0);
        error("0m;", 3);
        error("0m;;0m", 3);
        error("0m0m", 2);
        error("0m:0m", 2);
        error("0m ;0m", 2);
        error("0m; 0m", 3);
        s.term(10, "a snail (0 to 3), \":\" and one or more states (digits from 0 to 3): it feels these states, one after "
                + "the other, each for 1 tick;");
        error("0:0", NONE);
        error("3:3", NONE);
        error("4:0", 0);
        error("/:0", 0);
        error("0:4", 2);
        error("0:/", 2);
        error("0:33334", 6);
        error("0:3/", 3);
        error("0:", 2);
        error("0:;", 2);
        error("0:0;1:", 6);
        error("0::", 2);
        error("0;", 1);
        error("0:" + "0123".repeat(19) + "01", NONE);
        s.term(10, "a snail, \"m\": it meets the mark;");
        error("3m", NONE);
        error("4m", 0);
        error("m", 0);
        error("0M", 1);
        error("0m1", 2);
        error("0n", 1);
        error("0l", 1);
        s.term(10, "a snail, \"b\" and a number (1 to 16): it goes back by so many feelings.");
        for (int number = 1; number <= 16; number++) {
            error("2b" + number, NONE);
        }
        error("2b0", 2);
        error("2b17", 3);
        error("2b18", 3);
        error("2b20", 3);
        error("2b99", 3);
        error("2b161", 4);
        error("2b/", 2);
        error("2b:", 2);
        error("2b1/", 3);
        error("2b-1", 2);
        error("2b+1", 2);
        error("2b;", 2);
        error("2c", 1);
        error("2a", 1);
        error("4b1", 0);
    }

    private void numberTerms() {
        s.term(10, "Numbers have no leading zeros.");
        error("0b0", 2);
        error("0b01", 2);
        error("0b00", 2);
        error("0b010", 2);
        error("0b10", NONE);
        error("0m;0b016", 5);
    }

    private void firstErrorTerms() {
        s.term(10, "The first error of a text is the index of the first character that no valid text (of any length) can "
                + "have at that place after the characters before it;");
        error("5", 0);
        error("05", 1);
        error("0b5;5", 4);
        error("0m;".repeat(26) + "05", 79);
        // Such texts could only go on beyond 80 characters, which hinders no text "of any length".
        error("0:" + "0".repeat(77) + ";", 80);
        error("0m;".repeat(26) + "0:", 80);
        error("0m;".repeat(26) + "0b", 80);
        s.term(10, "if there is none, but the text ends too early (an empty text does), it is the length of the text.");
        error("", 0);
        error("0", 1);
        error("0:", 2);
        error("0b", 2);
        error("0m;", 3);
        error("0b1;", 4);
        error("0:1;", 4);
        error("0m;3", 4);
        error("0m;".repeat(25) + "0:00;", 80);
        error("0b1", NONE);
    }

    private void impossible(QuadSnail x, String text, int due) {
        Sentences.type(x, text);
        s.is("impossibleOrder() of " + text, x.impossibleOrder(), due);
    }

    private void impossibleOrder() {
        s.promise(11, "Finds the first order of the text that could not be carried out, if the orders were carried out "
                + "now, one after the other.");
        impossible(new QuadSnail(), "1b1;1b2", 0);
        impossible(new QuadSnail(), "0m;1:1;1b1;1b1;1b1", 3);
        impossible(new QuadSnail(), "0:11111111111111111;0b16;0b1", 2);
        impossible(new QuadSnail(), "0:111111111111111;0b16", 1);
        QuadSnail x = new QuadSnail();
        x.crawl(0, 2);
        impossible(x, "0b2;0b1", 1);
        impossible(x, "0b2;0b1", 1);
        s.is("positionOf(0), as nothing was carried out", x.positionOf(0), 2);
        s.is("logLength(0), as nothing was carried out", x.logLength(0), 2);
        s.is("recordedStates(), as this is no action", x.recordedStates(), 1);
        s.is("the text is left as it is", x.clearText(), 7);
        impossible(x, "0b2", NONE);
        x.goBack(0, 1);
        s.is("impossibleOrder() of the same text now", x.impossibleOrder(), 0);
        s.promise(11, "Returns the number of the order, from 0; NONE if all of them could be carried out.");
        impossible(new QuadSnail(), "0b1", 0);
        impossible(new QuadSnail(), "0m;".repeat(25) + "0b1", 25);
        impossible(new QuadSnail(), "0m", NONE);
        impossible(new QuadSnail(), "0:1;0b1", NONE);
        impossible(new QuadSnail(), "0m;".repeat(26) + "0m", NONE);
        s.promise(11, "Throws `IllegalStateException` if the text is not valid");
        for (String text : new String[] {"", "0", "0m;", "0b", "0b0", "0b17", "4m", "0m;x", "0b1;"}) {
            s.refused("impossibleOrder() of " + text, Sentences.STATE, () -> busyWith(text),
                    y -> y.impossibleOrder());
        }
    }

    private static QuadSnail busyWith(String text) {
        QuadSnail x = Sentences.busy();
        Sentences.type(x, text);
        return x;
    }

    private void carryOut() {
        s.promise(12, "Carries out all orders of the text, one after the other.");
        QuadSnail x = new QuadSnail();
        x.setCounts(4);
        Sentences.type(x, "0:132;0m;0b1;0:0;3:2");
        x.carryOut();
        s.is("positionOf(0)", x.positionOf(0), 3 + 1 - 1);
        s.is("stateOf(0)", x.stateOf(0), 0);
        s.is("errorsOf(0)", x.errorsOf(0), 1);
        s.is("slipsOf(0)", x.slipsOf(0), 1);
        s.is("logLength(0)", x.logLength(0), 3);
        s.is("positionOf(3)", x.positionOf(3), -1);
        s.promise(12, "The text stays as it is.");
        s.is("carryOut() once more", x.carryOut(), 5);
        s.is("clearText()", x.clearText(), 20);
        s.action(12, "This is one action.", QuadSnail::carryOut);
        s.promise(12, "Returns the number of orders.");
        s.is("of 0m", Sentences.typed("0m").carryOut(), 1);
        s.is("of 0:0123;1m", Sentences.typed("0:0123;1m").carryOut(), 2);
        s.is("of a full text", full().carryOut(), 27);
    }

    private void carryOutStates() {
        s.term(12, "a snail (0 to 3), \":\" and one or more states (digits from 0 to 3): it feels these states, one after "
                + "the other, each for 1 tick;");
        QuadSnail x = Sentences.typed("3:" + "1320".repeat(19) + "13");
        x.carryOut();
        s.is("positionOf(3) after 78 states", x.positionOf(3), 78);
        s.is("ticksOf(3)", x.ticksOf(3), 78);
        s.is("logLength(3)", x.logLength(3), 16);
        s.is("stateOf(3)", x.stateOf(3), 3);
        QuadSnail one = Sentences.typed("0:2");
        one.carryOut();
        s.is("positionOf(0) after one state", one.positionOf(0), -1);
        QuadSnail followed = Sentences.typed("1:1212");
        followed.setRule(QuadSnail.FOLLOW);
        followed.carryOut();
        s.is("positionOf(1) when errors are followed", followed.positionOf(1), 7);
        s.term(12, "a snail, \"m\": it meets the mark;");
        QuadSnail marked = Sentences.typed("2m");
        marked.crawl(2, 13);
        marked.carryOut();
        s.is("positionOf(2) from 13", marked.positionOf(2), 24);
        s.is("slipsOf(2)", marked.slipsOf(2), 11);
        s.term(12, "a snail, \"b\" and a number (1 to 16): it goes back by so many feelings.");
        for (int number : new int[] {1, 2, 9, 10, 15, 16}) {
            QuadSnail back = Sentences.typed("2b" + number);
            back.crawl(2, 20);
            back.carryOut();
            s.is("positionOf(2) after 2b" + number, back.positionOf(2), 20 - number);
            s.is("ticksOf(2)", back.ticksOf(2), 20 + number);
        }
    }

    private void carryOutRefused() {
        s.promise(12, "Throws `IllegalStateException` if the text is not valid, or an order cannot be carried out");
        for (String text : new String[] {"", "0", "0:1;", "0:1;0", "0b", "0b0", "0:1;0b17", "4m", "x"}) {
            s.refused("carryOut() of " + text, Sentences.STATE, () -> busyWith(text), x -> x.carryOut());
        }
        for (String text : new String[] {"2b2", "0:13;1m;2b16", "0:13;0m;0b9;1:1", "2b1;2b1"}) {
            s.refused("carryOut() of " + text, Sentences.STATE, () -> busyWith(text), x -> x.carryOut());
        }
    }
}
