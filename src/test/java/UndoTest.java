import java.util.ArrayList;
import java.util.List;

/** Promises 13 to 15 and 34: undo, the snapshot, the recorded states. */
public final class UndoTest {
    private static final Due DUE = new Due("UndoTest");

    public static void main(String[] args) {
        nothingToUndo();
        undoEachAction();
        onlyFourAreKept();
        snapshot();
        snapshotIsReplaced();
        snapshotIsKept();
        restoringIsAnAction();
        textAndRecordsAreNoState();
        whatRecords();
        DUE.end();
    }

    private static void nothingToUndo() {
        QuadSnail x = new QuadSnail();
        DUE.badState(x, "13: undo on a new object", () -> x.undo());
        x.crawl(0, 1);
        DUE.is("13: undo", x.undo(), 0);
        DUE.badState(x, "13: undo once more", () -> x.undo());
        DUE.isSame("13: as new", Due.read(x), Due.read(new QuadSnail()));
    }

    private static void undoEachAction() {
        QuadSnail x = new QuadSnail();
        x.feel(0, 1, 7);
        x.feel(1, 3, 9);
        x.crawl(2, 20);
        x.takeSnapshot();
        x.crawl(2, -3);
        Due.write(x, "2b1;3:12;0m");
        List<Runnable> actions = List.of(() -> x.feel(0, 3, 5), () -> x.feel(1, 0, 5), () -> x.crawl(2, -50),
                () -> x.crawl(3, 0), () -> x.meetMark(2), () -> x.goBack(2, 16), () -> x.setRule(1),
                () -> x.setCounts(4), () -> x.carryOut(), () -> x.restoreSnapshot());
        for (int number = 0; number < actions.size(); number++) {
            Object before = Due.read(x);
            int recorded = x.recordedStates();
            actions.get(number).run();
            DUE.is("34: recorded after action " + number, x.recordedStates(), Math.min(4, recorded + 1));
            DUE.is("13: undo of action " + number, x.undo(), 3);
            x.crawl(3, 0);
            DUE.isSame("13: what stands after undoing action " + number, Due.read(x), before);
        }
    }

    private static void onlyFourAreKept() {
        for (int actions = 1; actions <= 11; actions++) {
            QuadSnail x = new QuadSnail();
            List<Object> states = new ArrayList<>();
            for (int number = 0; number < actions; number++) {
                states.add(Due.readState(x));
                x.crawl(number % 4, number + 1);
                DUE.is("34: after " + (number + 1), x.recordedStates(), Math.min(4, number + 1));
            }
            for (int left = Math.min(4, actions) - 1; left >= 0; left--) {
                DUE.is("13: undo", x.undo(), left);
                DUE.is("34: as many are left", x.recordedStates(), left);
                DUE.isSame("13: the state recorded last", Due.readState(x), states.remove(states.size() - 1));
            }
            DUE.badState(x, "13: none is left", () -> x.undo());
            x.crawl(0, 5);
            DUE.is("13: recording goes on", x.undo(), 0);
        }
    }

    private static void snapshot() {
        QuadSnail x = new QuadSnail();
        DUE.badState(x, "15: no snapshot", () -> x.restoreSnapshot());
        DUE.is("14: takeSnapshot of nothing", x.takeSnapshot(), 0);
        x.crawl(0, 10);
        x.crawl(1, -30);
        x.crawl(2, 7);
        x.crawl(3, 1);
        x.setRule(QuadSnail.FOLLOW);
        x.setCounts(8);
        Object state = Due.readState(x);
        Object all = Due.read(x);
        DUE.is("14: the sum of all positions", x.takeSnapshot(), -12);
        DUE.isSame("14: no action, nothing changes", Due.read(x), all);
        x.goBack(0, 4);
        x.meetMark(1);
        x.setRule(QuadSnail.IGNORE);
        x.setCounts(400);
        x.feel(3, 2, 1000);
        DUE.is("15: the sum of all positions", x.restoreSnapshot(), -12);
        DUE.isSame("15: the state of the snapshot", Due.readState(x), state);
    }

    private static void snapshotIsReplaced() {
        QuadSnail x = new QuadSnail();
        x.crawl(0, 10);
        x.takeSnapshot();
        x.crawl(0, 10);
        DUE.is("14: a second snapshot", x.takeSnapshot(), 20);
        x.crawl(0, 10);
        DUE.is("15: the second snapshot", x.restoreSnapshot(), 20);
    }

    private static void snapshotIsKept() {
        QuadSnail x = new QuadSnail();
        x.crawl(0, 10);
        x.takeSnapshot();
        for (int round = 0; round < 3; round++) {
            x.crawl(0, -7);
            x.goBack(0, 3);
            DUE.is("15: restored, round " + round, x.restoreSnapshot(), 10);
            DUE.is("15: its log, round " + round, x.logLength(0), 10);
        }
    }

    private static void restoringIsAnAction() {
        QuadSnail x = new QuadSnail();
        x.takeSnapshot();
        x.crawl(2, 33);
        DUE.is("15: restored", x.restoreSnapshot(), 0);
        DUE.is("15: an action", x.recordedStates(), 2);
        DUE.is("13: undone", x.undo(), 1);
        DUE.is("13: as before restoring", x.positionOf(2), 33);
        DUE.is("15: the snapshot outlives undo", x.restoreSnapshot(), 0);
        x.undo();
        x.undo();
        DUE.is("15: and the undo of all", x.restoreSnapshot(), 0);
    }

    private static void textAndRecordsAreNoState() {
        QuadSnail x = new QuadSnail();
        Due.write(x, "0m");
        x.takeSnapshot();
        x.crawl(0, 1);
        Due.write(x, "0:132");
        x.crawl(0, 1);
        x.restoreSnapshot();
        DUE.is("15: the records stay", x.recordedStates(), 3);
        x.undo();
        DUE.is("13: the text stays", x.clearText(), 5);
    }

    private static void whatRecords() {
        QuadSnail x = new QuadSnail();
        Due.write(x, "0m;1:1");
        x.textError();
        x.impossibleOrder();
        x.takeSnapshot();
        x.clearText();
        Due.read(x);
        DUE.is("34: these are no actions", x.recordedStates(), 0);
        x.setRule(QuadSnail.IGNORE);
        DUE.is("34: an action without a change records", x.recordedStates(), 1);
        x.meetMark(0);
        DUE.is("34: so does a mark met in place", x.recordedStates(), 2);
        DUE.badArgument(x, "34: a refused action does not", () -> x.crawl(0, 101));
        DUE.is("34: two", x.recordedStates(), 2);
    }
}
