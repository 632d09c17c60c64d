import java.util.List;

/** Promises 13 to 15 and 34, and the terms on undo and exceptions, sentence by sentence. */
final class UndoSentences {
    private final Sentences s;

    private UndoSentences(Sentences s) {
        this.s = s;
    }

    static void tell(Sentences s) {
        UndoSentences told = new UndoSentences(s);
        told.undo();
        told.recordTerms();
        told.stateTerms();
        told.takeSnapshot();
        told.restoreSnapshot();
        told.recordedStates();
        told.exceptionOrder();
        told.exceptionChangesNothing();
    }

    private static QuadSnail afterActions(int actions) {
        QuadSnail x = new QuadSnail();
        for (int number = 1; number <= actions; number++) {
            x.crawl(0, number);
        }
        return x;
    }

    private void undo() {
        s.promise(13, "Returns to the state that was recorded last, and discards it from the recorded states.");
        QuadSnail x = afterActions(3);
        x.undo();
        s.is("positionOf(0) after undo()", x.positionOf(0), 3);
        s.is("recordedStates() after undo()", x.recordedStates(), 2);
        x.undo();
        s.is("positionOf(0) after another undo()", x.positionOf(0), 1);
        x.crawl(0, 100);
        x.undo();
        s.is("positionOf(0) after one more action and undo()", x.positionOf(0), 1);
        s.is("recordedStates()", x.recordedStates(), 1);
        s.promise(13, "Returns the number of recorded states that are left.");
        QuadSnail y = afterActions(9);
        for (int left = 3; left >= 0; left--) {
            s.is("undo()", y.undo(), left);
        }
        s.is("undo() of a single action", afterActions(1).undo(), 0);
        s.promise(13, "Throws `IllegalStateException` if no state is recorded");
        s.refused("undo() of a new object", Sentences.STATE, QuadSnail::new, z -> z.undo());
        for (int actions = 1; actions <= 9; actions++) {
            int number = actions;
            s.refused("undo() after all of " + number, Sentences.STATE, () -> allUndone(number), z -> z.undo());
        }
        QuadSnail again = allUndone(9);
        again.crawl(0, 0);
        s.is("undo() after a new action", again.undo(), 0);
    }

    private static QuadSnail allUndone(int actions) {
        QuadSnail x = afterActions(actions);
        while (x.recordedStates() > 0) {
            x.undo();
        }
        return x;
    }

    private void recordTerms() {
        s.term(13, "Each successful call of a method that is described as an action first records the current state;");
        QuadSnail x = Sentences.typed("0:1");
        List<Sentences.Call> actions = List.of(y -> y.feel(0, 1, 1), y -> y.crawl(0, 0), y -> y.meetMark(0),
                y -> y.goBack(0, 1), y -> y.setRule(1), y -> y.setCounts(24), y -> y.carryOut(),
                y -> y.restoreSnapshot());
        x.takeSnapshot();
        for (Sentences.Call action : actions) {
            int position = x.positionOf(0);
            int rule = x.rule();
            action.on(x);
            s.is("recordedStates()", x.recordedStates(), 1);
            s.is("undo()", x.undo(), 0);
            s.is("positionOf(0)", x.positionOf(0), position);
            s.is("rule()", x.rule(), rule);
            // Each action is done once more to go on from, and the record of it dropped behind four others.
            action.on(x);
            for (int number = 0; number < 4; number++) {
                x.setRule(x.rule());
            }
            for (int number = 0; number < 4; number++) {
                x.undo();
            }
        }
        s.refused("a refused call records nothing", Sentences.ARGUMENT, () -> afterActions(2), y -> y.crawl(0, 101));
        s.term(13, "only the latest 4 recorded states are kept.");
        for (int number = 1; number <= 9; number++) {
            QuadSnail y = afterActions(number);
            s.is("recordedStates() after " + number, y.recordedStates(), Math.min(4, number));
            while (y.recordedStates() > 0) {
                y.undo();
            }
            int left = Math.max(0, number - 4);
            s.is("positionOf(0) after all that can be undone of " + number, y.positionOf(0), left * (left + 1) / 2);
        }
    }

    private void stateTerms() {
        s.term(13, "The state consists of everything except the order text, the recorded states and the snapshot.");
        QuadSnail x = Sentences.busy();
        Object before = Due.readState(x);
        x.setRule(QuadSnail.IGNORE);
        x.undo();
        x.meetMark(3);
        x.undo();
        Sentences.type(x, "0:" + "1320".repeat(5) + ";1:1;2m;3b1");
        x.carryOut();
        x.undo();
        s.isSame("all but these after undo()", Due.readState(x), before);
        s.is("the order text after undo()", x.clearText(), 33);
        QuadSnail y = afterActions(1);
        y.takeSnapshot();
        y.undo();
        s.is("the snapshot after undo()", y.restoreSnapshot(), 1);
        QuadSnail z = afterActions(2);
        z.takeSnapshot();
        z.crawl(0, 5);
        Sentences.type(z, "0m");
        z.restoreSnapshot();
        s.is("the recorded states after restoreSnapshot()", z.recordedStates(), 4);
        s.is("the order text after restoreSnapshot()", z.clearText(), 2);
        z.undo();
        s.is("positionOf(0) before restoreSnapshot()", z.positionOf(0), 8);
        z.undo();
        z.undo();
        s.is("positionOf(0) long before it", z.positionOf(0), 1);
    }

    private void takeSnapshot() {
        s.promise(14, "Takes a snapshot of the state, which replaces the previous snapshot.");
        QuadSnail x = afterActions(2);
        x.takeSnapshot();
        s.is("recordedStates(), as this is no action", x.recordedStates(), 2);
        s.is("positionOf(0), which stays", x.positionOf(0), 3);
        x.crawl(0, 10);
        x.takeSnapshot();
        x.crawl(0, 10);
        s.is("restoreSnapshot() to the second one", x.restoreSnapshot(), 13);
        s.promise(14, "Returns the sum of all positions.");
        s.is("takeSnapshot() of a new object", new QuadSnail().takeSnapshot(), 0);
        QuadSnail y = new QuadSnail();
        y.crawl(0, 100);
        y.crawl(1, -30);
        y.crawl(2, -80);
        y.crawl(3, 3);
        s.is("takeSnapshot()", y.takeSnapshot(), -7);
        y.meetMark(0);
        s.is("takeSnapshot() after a mark", y.takeSnapshot(), -11);
    }

    private void restoreSnapshot() {
        s.promise(15, "Returns to the state of the snapshot, which is kept.");
        QuadSnail x = Sentences.busy();
        x.takeSnapshot();
        Object before = Due.readState(x);
        x.feel(0, 2, 9);
        x.setCounts(400);
        x.restoreSnapshot();
        s.isSame("the state", Due.readState(x), before);
        x.crawl(0, 50);
        s.is("restoreSnapshot() again", x.restoreSnapshot(), x.positionOf(0) + x.positionOf(1) + x.positionOf(2)
                + x.positionOf(3));
        s.isSame("the state again", Due.readState(x), before);
        s.action(15, "This is an action.", QuadSnail::restoreSnapshot);
        s.promise(15, "Returns the sum of all positions afterwards.");
        QuadSnail y = new QuadSnail();
        y.crawl(0, 5);
        y.crawl(3, -9);
        y.takeSnapshot();
        y.crawl(1, 77);
        s.is("restoreSnapshot()", y.restoreSnapshot(), -4);
        s.promise(15, "Throws `IllegalStateException` if there is no snapshot");
        s.refused("restoreSnapshot() of a new object", Sentences.STATE, QuadSnail::new, z -> z.restoreSnapshot());
        s.refused("restoreSnapshot() after actions", Sentences.STATE, () -> afterActions(3),
                z -> z.restoreSnapshot());
        QuadSnail w = new QuadSnail();
        w.takeSnapshot();
        s.is("restoreSnapshot() of a snapshot of nothing", w.restoreSnapshot(), 0);
    }

    private void recordedStates() {
        s.promise(34, "Returns the number of recorded states.");
        s.is("recordedStates() of a new object", new QuadSnail().recordedStates(), 0);
        for (int actions = 1; actions <= 6; actions++) {
            s.is("recordedStates() after " + actions, afterActions(actions).recordedStates(), Math.min(4, actions));
        }
        QuadSnail x = afterActions(5);
        x.undo();
        s.is("recordedStates() after undo()", x.recordedStates(), 3);
        x.takeSnapshot();
        x.type('0');
        s.is("recordedStates() after no action", x.recordedStates(), 3);
        x.restoreSnapshot();
        s.is("recordedStates() after restoreSnapshot()", x.recordedStates(), 4);
    }

    private void exceptionOrder() {
        s.term(2, "If several exceptions apply to a call, the one that is listed first is thrown.");
        s.refused("feel(4, 4, 0)", Sentences.INDEX, x -> x.feel(4, 4, 0));
        s.refused("crawl(-1, -101)", Sentences.INDEX, x -> x.crawl(-1, -101));
        s.refused("goBack(4, 17)", Sentences.INDEX, x -> x.goBack(4, 17));
        s.refused("goBack(4, 16)", Sentences.INDEX, x -> x.goBack(4, 16));
        s.refused("goBack(0, 17) of too short a log", Sentences.ARGUMENT, x -> x.goBack(0, 17));
        s.refused("stepTo(-1, 4)", Sentences.INDEX, x -> x.stepTo(-1, 4));
    }

    private void exceptionChangesNothing() {
        s.term(2, "A call that throws an exception changes nothing.");
        s.refused("feel(0, 3, 1001)", Sentences.ARGUMENT, x -> x.feel(0, 3, 1001));
        s.refused("crawl(0, 101)", Sentences.ARGUMENT, x -> x.crawl(0, 101));
        s.refused("meetMark(4)", Sentences.INDEX, x -> x.meetMark(4));
        s.refused("goBack(2, 2)", Sentences.STATE, x -> x.goBack(2, 2));
        s.refused("setRule(2)", Sentences.ARGUMENT, x -> x.setRule(2));
        s.refused("setCounts(402)", Sentences.ARGUMENT, x -> x.setCounts(402));
        s.refused("carryOut() whose last order fails", Sentences.STATE, () -> Sentences.typed("0:13;1m;2b1"),
                QuadSnail::carryOut);
        s.term(16, "A method throws an IndexOutOfBoundsException if there is no such snail or log entry.");
        s.refused("stateOf(4)", Sentences.INDEX, x -> x.stateOf(4));
        s.refused("loggedStep(1, 2)", Sentences.INDEX, x -> x.loggedStep(1, 2));
        s.refused("loggedStep(1, -1)", Sentences.INDEX, x -> x.loggedStep(1, -1));
    }
}
