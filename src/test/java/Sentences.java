import java.io.IOException;
import java.nio.charset.StandardCharsets;
import java.nio.file.Files;
import java.nio.file.Path;
import java.util.ArrayList;
import java.util.BitSet;
import java.util.List;
import java.util.function.Supplier;

/**
 * Checks answers under the sentence of ../shared/DOC.md that asks for them. A sentence that the
 * document does not hold, one that is quoted and then not tested, and one that is never quoted fail.
 */
final class Sentences {
    static final int[] NO_SNAILS = {-1, 4, Integer.MIN_VALUE, Integer.MAX_VALUE};
    static final Class<IndexOutOfBoundsException> INDEX = IndexOutOfBoundsException.class;
    static final Class<IllegalArgumentException> ARGUMENT = IllegalArgumentException.class;
    static final Class<IllegalStateException> STATE = IllegalStateException.class;

    private static final int TERMS = 0;
    private static final int PROMISES = 34;

    private final Due due = new Due("SentencesTest");
    private final String[] sections = new String[PROMISES + 1];
    private final BitSet[] quoted = new BitSet[PROMISES + 1];
    private String now = "";
    private boolean isTested = true;

    interface Call {
        void on(QuadSnail x);
    }

    interface SnailCall {
        void on(QuadSnail x, int snail);
    }

    Sentences(Path document) throws IOException {
        String text = Files.readString(document, StandardCharsets.UTF_8);
        // Each paragraph of the terms begins with its title, which says nothing by itself.
        sections[TERMS] = between(text, "\n## Terms\n", "\nThe constants:")
                .replaceAll("(?m)^(The )?[A-Za-z]+\\. ", "");
        for (int promise = 1; promise <= PROMISES; promise++) {
            String rest = between(text, "\n## Promise " + promise + ": ", "\n## ");
            sections[promise] = rest.substring(rest.indexOf("`: ") + 3);
        }
        for (int section = 0; section <= PROMISES; section++) {
            quoted[section] = new BitSet();
        }
    }

    private static String between(String text, String start, String end) {
        int from = text.indexOf(start);
        if (from < 0) {
            throw new IllegalStateException("the document has no " + start);
        }
        from += start.length();
        int to = text.indexOf(end, from);
        return text.substring(from, to < 0 ? text.length() : to);
    }

    /** What follows tests this sentence, which stands under the promise's own heading. */
    void promise(int number, String sentence) {
        quote(number, sentence, "promise " + number + ", \"" + sentence + "\": ");
    }

    /** What follows tests this sentence of the terms, by the calls of this promise. */
    void term(int number, String sentence) {
        quote(TERMS, sentence, "promise " + number + ", terms, \"" + sentence + "\": ");
    }

    private void quote(int section, String sentence, String label) {
        due.is(now + "answers asked", isTested ? 1 : 0, 1);
        int from = sections[section].indexOf(sentence);
        due.is(label + "stands in the document", from >= 0 ? 1 : 0, 1);
        if (from >= 0) {
            quoted[section].set(from, from + sentence.length());
        }
        now = label;
        isTested = false;
    }

    void is(String call, long got, long want) {
        isTested = true;
        due.is(now + call, got, want);
    }

    void isExactly(String call, double got, double want) {
        isTested = true;
        due.isExactly(now + call, got, want);
    }

    void isSame(String what, Object got, Object want) {
        isTested = true;
        due.isSame(now + what, got, want);
    }

    /** On an object in the midst of much, the call throws just this class and changes nothing. */
    void refused(String call, Class<? extends RuntimeException> kind, Call refused) {
        refused(call, kind, Sentences::busy, refused);
    }

    /** A twin is spared the call; whatever can be asked of the two afterwards must be the same. */
    void refused(String call, Class<? extends RuntimeException> kind, Supplier<QuadSnail> made, Call refused) {
        QuadSnail asked = made.get();
        is(call + " throws " + kind.getSimpleName(), thrownBy(asked, refused) == kind ? 1 : 0, 1);
        isSame("what stands after " + call, drain(asked), drain(made.get()));
    }

    /** As above, for an object that is too dear to be made twice. */
    void refusedOn(QuadSnail x, String call, Class<? extends RuntimeException> kind, Call refused) {
        isTested = true;
        due.refuses(x, now + call, kind, () -> refused.on(x));
    }

    private static Class<?> thrownBy(QuadSnail x, Call call) {
        try {
            call.on(x);
            return null;
        } catch (RuntimeException e) {
            return e.getClass();
        }
    }

    /** The call is taken for the first and the last snail, and refused for those beside them. */
    void snails(int promise, SnailCall call) {
        promise(promise, "- `snail`: 0 to 3");
        for (int snail : new int[] {0, 3}) {
            is("snail " + snail + " is taken", thrownBy(busy(), x -> call.on(x, snail)) == null ? 1 : 0, 1);
        }
        noSnails(call);
        promise(promise, "Throws `IndexOutOfBoundsException` if there is no such snail");
        noSnails(call);
    }

    void noSnails(SnailCall call) {
        for (int snail : NO_SNAILS) {
            refused("snail " + snail, INDEX, x -> call.on(x, snail));
        }
    }

    /** The call records the state that it finds, whatever the number of those recorded before. */
    void action(int promise, String sentence, Call action) {
        promise(promise, sentence);
        for (int recorded = 0; recorded <= 5; recorded++) {
            QuadSnail x = withNothingRecorded();
            for (int number = 0; number < recorded; number++) {
                x.feel(1, number % 4, 2);
            }
            Object before = Due.readState(x);
            int kept = Math.min(4, recorded);
            is("recorded before it", x.recordedStates(), kept);
            action.on(x);
            is("recorded after it", x.recordedStates(), Math.min(4, kept + 1));
            is("undo()", x.undo(), Math.min(4, kept + 1) - 1);
            isSame("what undo() brings back", Due.readState(x), before);
        }
    }

    /** Though nothing is recorded, snail 1 has felt something; there are a text and a snapshot too. */
    private static QuadSnail withNothingRecorded() {
        QuadSnail x = typed("1:1;2:0");
        for (int steps = 1; steps <= 5; steps++) {
            x.crawl(1, steps);
        }
        x.takeSnapshot();
        for (int undone = 0; undone < 4; undone++) {
            x.undo();
        }
        return x;
    }

    /** An object that has some of all: logs, records, a snapshot, a text, a rule and counts of its own. */
    static QuadSnail busy() {
        QuadSnail x = new QuadSnail();
        x.setCounts(8);
        x.setRule(QuadSnail.FOLLOW);
        x.crawl(0, 3);
        x.crawl(1, -3);
        x.crawl(3, 2);
        x.takeSnapshot();
        x.feel(0, 1, 20);
        x.meetMark(0);
        x.goBack(1, 1);
        x.feel(2, 2, 1000);
        x.feel(3, 0, 7);
        type(x, "0:13;1b1;2m");
        return x;
    }

    static QuadSnail typed(String text) {
        QuadSnail x = new QuadSnail();
        type(x, text);
        return x;
    }

    static void type(QuadSnail x, String text) {
        Due.write(x, text);
    }

    /** Asks for all that can be asked, at the cost of the object. */
    private static List<Object> drain(QuadSnail x) {
        List<Object> all = Due.read(x);
        all.add(String.valueOf(thrownBy(x, QuadSnail::impossibleOrder)));
        while (x.recordedStates() > 0) {
            all.add(x.undo());
            all.add(x.counts() * 2 + x.rule());
            for (int snail = 0; snail < 4; snail++) {
                all.add(List.of(x.stateOf(snail), x.positionOf(snail), x.directionOf(snail), x.ticksOf(snail)));
            }
        }
        all.add(String.valueOf(thrownBy(x, QuadSnail::carryOut)));
        all.add(x.positionOf(0));
        all.add(x.clearText());
        all.add(String.valueOf(thrownBy(x, QuadSnail::restoreSnapshot)));
        all.addAll(Due.readState(x));
        return all;
    }

    void end() {
        due.is(now + "answers asked", isTested ? 1 : 0, 1);
        for (int section = 0; section <= PROMISES; section++) {
            due.isSame((section == TERMS ? "terms" : "promise " + section) + ": what no test quotes",
                    unquoted(section), List.of());
        }
        due.end();
    }

    private List<String> unquoted(int section) {
        List<String> left = new ArrayList<>();
        StringBuilder part = new StringBuilder();
        for (int index = 0; index <= sections[section].length(); index++) {
            if (index < sections[section].length() && !quoted[section].get(index)) {
                part.append(sections[section].charAt(index));
                continue;
            }
            if (part.chars().anyMatch(Character::isLetterOrDigit)) {
                left.add(part.toString().trim());
            }
            part.setLength(0);
        }
        return left;
    }
}
