/** Promises 1 to 7: a new object and the actions. */
public final class ActionsTest {
    private static final Due DUE = new Due("ActionsTest");
    private static final int[] NO_SNAILS = {-1, 4, Integer.MIN_VALUE, Integer.MAX_VALUE};

    public static void main(String[] args) {
        newObject();
        feelSteps();
        feelErrors();
        feelWrongInputs();
        crawl();
        crawlWrongInputs();
        meetMark();
        meetMarkAtHalf();
        goBack();
        goBackOverErrors();
        goBackWrongInputs();
        setRule();
        setCounts();
        DUE.end();
    }

    private static void newObject() {
        QuadSnail x = new QuadSnail();
        for (int snail = 0; snail < 4; snail++) {
            DUE.isSame("1: snail " + snail, Due.readSnail(x, snail).toString(),
                    "[0, 0, 0, 0, 0, 0, 0, 0.0, 0, 0, 0, 0, [0, 1, -1, 0], []]");
        }
        DUE.is("1: counts", x.counts(), 24);
        DUE.is("1: rule", x.rule(), QuadSnail.IGNORE);
        DUE.is("1: leader", x.leader(), 0);
        DUE.is("1: recordedStates", x.recordedStates(), 0);
        DUE.is("1: the text is empty", x.clearText(), 0);
    }

    private static void feelSteps() {
        QuadSnail x = new QuadSnail();
        int[] forward = {1, 3, 2, 0};
        int[] backward = {2, 3, 1, 0};
        for (int round = 0; round < 2; round++) {
            for (int state : forward) {
                DUE.is("2: forward to " + state, x.feel(1, state, 3), 1);
                DUE.is("2: the same " + state, x.feel(1, state, 1000), 0);
                DUE.is("2: state", x.stateOf(1), state);
            }
        }
        DUE.is("2: position", x.positionOf(1), 8);
        for (int state : backward) {
            DUE.is("2: backward to " + state, x.feel(1, state, 1), -1);
        }
        DUE.is("2: position after the way back", x.positionOf(1), 4);
        DUE.is("2: ticks", x.ticksOf(1), 8 * 1003 + 4);
        DUE.is("2: distance", x.distanceOf(1), 12);
        DUE.is("2: errors", x.errorsOf(1), 0);
        DUE.is("2: another snail stays", x.positionOf(0) + x.ticksOf(2) + x.stateOf(3), 0);
        DUE.is("2: recorded", x.recordedStates(), 4);
    }

    private static void feelErrors() {
        int[][] errors = {{0, 3}, {3, 0}, {1, 2}, {2, 1}};
        for (int[] error : errors) {
            for (int direction = -1; direction <= 1; direction += 2) {
                String what = "2: error " + error[0] + " to " + error[1] + ", direction " + direction + ": ";
                QuadSnail x = new QuadSnail();
                arrive(x, error[0], direction);
                int position = x.positionOf(0);
                DUE.is(what + "ignored", x.feel(0, error[1], 2), 0);
                DUE.is(what + "position when ignored", x.positionOf(0), position);
                DUE.is(what + "state when ignored", x.stateOf(0), error[1]);
                DUE.is(what + "errors when ignored", x.errorsOf(0), 1);
                x.undo();
                x.setRule(QuadSnail.FOLLOW);
                DUE.is(what + "followed", x.feel(0, error[1], 2), 2 * direction);
                DUE.is(what + "position when followed", x.positionOf(0), position + 2 * direction);
                DUE.is(what + "state when followed", x.stateOf(0), error[1]);
                DUE.is(what + "direction when followed", x.directionOf(0), direction);
                DUE.is(what + "errors when followed", x.errorsOf(0), 1);
            }
        }
        feelErrorsWithoutDirection();
    }

    /** Brings snail 0 to a state by steps of one direction. */
    private static void arrive(QuadSnail x, int state, int direction) {
        x.crawl(0, direction);
        for (int steps = 0; steps < 3 && x.stateOf(0) != state; steps++) {
            x.crawl(0, direction);
        }
    }

    private static void feelErrorsWithoutDirection() {
        QuadSnail x = new QuadSnail();
        x.setRule(QuadSnail.FOLLOW);
        DUE.is("2: no direction to follow", x.feel(0, 3, 1), 0);
        DUE.is("2: nor on the way back", x.feel(0, 0, 1), 0);
        DUE.is("2: still no direction", x.directionOf(0), 0);
        DUE.is("2: both are errors", x.errorsOf(0), 2);
        DUE.is("2: both are in the log", x.logLength(0), 2);
    }

    private static void feelWrongInputs() {
        QuadSnail x = new QuadSnail();
        for (int snail : NO_SNAILS) {
            DUE.noSnail(x, "2: feel(" + snail + ", 1, 1)", () -> x.feel(snail, 1, 1));
            DUE.noSnail(x, "2: feel(" + snail + ", 4, 0)", () -> x.feel(snail, 4, 0));
        }
        for (int state : NO_SNAILS) {
            DUE.badArgument(x, "2: feel(0, " + state + ", 1)", () -> x.feel(0, state, 1));
        }
        for (int ticks : new int[] {0, -1, 1001, Integer.MIN_VALUE, Integer.MAX_VALUE}) {
            DUE.badArgument(x, "2: feel(3, 3, " + ticks + ")", () -> x.feel(3, 3, ticks));
        }
        DUE.is("2: feel(3, 3, 1000)", x.feel(3, 3, 1000), 0);
        DUE.is("2: feel(3, 2, 1)", x.feel(3, 2, 1), 1);
    }

    private static void crawl() {
        QuadSnail x = new QuadSnail();
        int position = 0;
        for (int steps : new int[] {100, -100, 0, 1, -1, 5, 17, -3, 100, -99, -100}) {
            position += steps;
            DUE.is("3: crawl " + steps, x.crawl(2, steps), position);
            DUE.is("3: position", x.positionOf(2), position);
            DUE.is("3: state", x.stateOf(2), new int[] {0, 1, 3, 2}[Math.floorMod(position, 4)]);
            if (steps != 0) {
                DUE.is("3: direction", x.directionOf(2), steps > 0 ? 1 : -1);
                DUE.is("3: latest step", x.loggedStep(2, x.logLength(2) - 1), steps > 0 ? 1 : -1);
            }
        }
        DUE.is("3: ticks", x.ticksOf(2), 526);
        DUE.is("3: distance", x.distanceOf(2), 526);
        DUE.is("3: errors", x.errorsOf(2), 0);
        QuadSnail y = new QuadSnail();
        DUE.is("3: a crawl of nothing", y.crawl(0, 0), 0);
        DUE.is("3: is an action", y.recordedStates(), 1);
        DUE.is("3: but no feeling", y.logLength(0), 0);
        y.crawl(0, 3);
        DUE.is("3: one action for all steps", y.recordedStates(), 2);
        DUE.is("3: each step is a feeling", y.logLength(0), 3);
    }

    private static void crawlWrongInputs() {
        QuadSnail x = new QuadSnail();
        x.crawl(0, 2);
        for (int snail : NO_SNAILS) {
            DUE.noSnail(x, "3: crawl(" + snail + ", 1)", () -> x.crawl(snail, 1));
            DUE.noSnail(x, "3: crawl(" + snail + ", 101)", () -> x.crawl(snail, 101));
        }
        for (int steps : new int[] {101, -101, Integer.MIN_VALUE, Integer.MAX_VALUE}) {
            DUE.badArgument(x, "3: crawl(0, " + steps + ")", () -> x.crawl(0, steps));
        }
    }

    private static void meetMark() {
        for (int counts : new int[] {4, 8, 24, 400}) {
            for (int position = -90; position <= 90; position++) {
                QuadSnail x = new QuadSnail();
                x.setCounts(counts);
                x.crawl(3, position);
                int place = ((position % counts) + counts) % counts;
                int off = 2 * place <= counts ? place : place - counts;
                String at = " at " + position + " of " + counts;
                DUE.is("4: meetMark" + at, x.meetMark(3), off);
                DUE.is("4: position" + at, x.positionOf(3), position - off);
                DUE.is("4: place" + at, x.placeOf(3), 0);
                DUE.is("4: slips" + at, x.slipsOf(3), Math.abs(off));
                DUE.is("4: again" + at, x.meetMark(3), 0);
                DUE.is("4: recorded" + at, x.recordedStates(), 4);
                x.undo();
                x.undo();
                DUE.is("4: undone" + at, x.positionOf(3), position);
            }
        }
    }

    private static void meetMarkAtHalf() {
        QuadSnail x = new QuadSnail();
        x.crawl(0, 12);
        int ticks = x.ticksOf(0);
        DUE.is("4: half a turn is forward", x.meetMark(0), 12);
        DUE.is("4: the mark takes no ticks", x.ticksOf(0), ticks);
        DUE.is("4: and no distance", x.distanceOf(0), 12);
        DUE.is("4: and the direction stays", x.directionOf(0), 1);
        DUE.is("4: and the log stays", x.logLength(0), 12);
        DUE.is("4: and the state stays", x.stateOf(0), 0);
        x.crawl(0, 13);
        DUE.is("4: more than half is backward", x.meetMark(0), -11);
        DUE.is("4: sizes are added", x.slipsOf(0), 23);
        for (int snail : NO_SNAILS) {
            DUE.noSnail(x, "4: meetMark(" + snail + ")", () -> x.meetMark(snail));
        }
    }

    private static void goBack() {
        QuadSnail x = new QuadSnail();
        x.feel(0, 1, 10);
        x.feel(0, 1, 20);
        x.feel(0, 3, 30);
        x.feel(0, 1, 40);
        DUE.is("5: goBack 1", x.goBack(0, 1), 2);
        DUE.is("5: state", x.stateOf(0), 3);
        DUE.is("5: direction", x.directionOf(0), 1);
        DUE.is("5: ticks", x.ticksOf(0), 140);
        DUE.is("5: distance", x.distanceOf(0), 4);
        DUE.is("5: log", x.logLength(0), 3);
        DUE.is("5: goBack 2", x.goBack(0, 2), 1);
        DUE.is("5: state 2", x.stateOf(0), 1);
        DUE.is("5: direction 2", x.directionOf(0), -1);
        DUE.is("5: ticks 2", x.ticksOf(0), 190);
        DUE.is("5: distance 2", x.distanceOf(0), 5);
        DUE.is("5: oldest", x.loggedStep(0, 0), 1);
        DUE.is("5: goBack all", x.goBack(0, 1), 0);
        DUE.is("5: state 3", x.stateOf(0), 0);
        DUE.is("5: ticks 3", x.ticksOf(0), 200);
        DUE.is("5: log 3", x.logLength(0), 0);
        DUE.is("5: recorded", x.recordedStates(), 4);
        x.crawl(1, 20);
        DUE.is("5: goBack 16", x.goBack(1, 16), 4);
        DUE.badState(x, "5: goBack beyond the log", () -> x.goBack(1, 1));
        x.crawl(1, -3);
        DUE.is("5: new feelings after it", x.goBack(1, 3), 4);
        DUE.is("5: direction at the end", x.directionOf(1), 1);
    }

    private static void goBackOverErrors() {
        QuadSnail x = new QuadSnail();
        x.setRule(QuadSnail.FOLLOW);
        x.feel(0, 2, 5);
        x.feel(0, 1, 6);
        DUE.is("5: followed backward", x.positionOf(0), -3);
        x.setRule(QuadSnail.IGNORE);
        x.feel(0, 2, 7);
        x.feel(0, 2, 8);
        DUE.is("5: nothing of an ignored error", x.goBack(0, 2), -3);
        DUE.is("5: the direction stays", x.directionOf(0), -1);
        DUE.is("5: the state is the one before", x.stateOf(0), 1);
        DUE.is("5: the step of a followed error", x.goBack(0, 1), -1);
        DUE.is("5: the opposite direction", x.directionOf(0), 1);
        DUE.is("5: errors stay", x.errorsOf(0), 2);
        DUE.is("5: distance", x.distanceOf(0), 5);
        DUE.is("5: ticks", x.ticksOf(0), 47);
        DUE.is("5: by tracks", x.positionByTracks(0), -1);
    }

    private static void goBackWrongInputs() {
        QuadSnail x = new QuadSnail();
        x.crawl(0, 3);
        for (int snail : NO_SNAILS) {
            DUE.noSnail(x, "5: goBack(" + snail + ", 1)", () -> x.goBack(snail, 1));
            DUE.noSnail(x, "5: goBack(" + snail + ", 0)", () -> x.goBack(snail, 0));
        }
        for (int feelings : new int[] {0, -1, 17, Integer.MIN_VALUE, Integer.MAX_VALUE}) {
            DUE.badArgument(x, "5: goBack(0, " + feelings + ")", () -> x.goBack(0, feelings));
        }
        DUE.badState(x, "5: goBack(0, 4)", () -> x.goBack(0, 4));
        DUE.badState(x, "5: goBack(1, 1)", () -> x.goBack(1, 1));
        DUE.badState(x, "5: goBack(0, 16)", () -> x.goBack(0, 16));
        DUE.is("5: goBack(0, 3)", x.goBack(0, 3), 0);
    }

    private static void setRule() {
        QuadSnail x = new QuadSnail();
        DUE.is("6: to FOLLOW", x.setRule(QuadSnail.FOLLOW), QuadSnail.IGNORE);
        DUE.is("6: rule", x.rule(), QuadSnail.FOLLOW);
        DUE.is("6: to FOLLOW again", x.setRule(QuadSnail.FOLLOW), QuadSnail.FOLLOW);
        DUE.is("6: recorded", x.recordedStates(), 2);
        DUE.is("6: to IGNORE", x.setRule(QuadSnail.IGNORE), QuadSnail.FOLLOW);
        for (int rule : new int[] {-1, 2, Integer.MIN_VALUE, Integer.MAX_VALUE}) {
            DUE.badArgument(x, "6: setRule(" + rule + ")", () -> x.setRule(rule));
        }
        x.undo();
        DUE.is("6: undone", x.rule(), QuadSnail.FOLLOW);
    }

    private static void setCounts() {
        QuadSnail x = new QuadSnail();
        x.crawl(0, 50);
        int previous = 24;
        for (int counts = -8; counts <= 408; counts++) {
            int tried = counts;
            if (counts >= 4 && counts <= 400 && counts % 4 == 0) {
                DUE.is("7: setCounts(" + counts + ")", x.setCounts(counts), previous);
                DUE.is("7: counts", x.counts(), counts);
                DUE.is("7: positions stay", x.positionOf(0), 50);
                DUE.is("7: turns", x.turnsOf(0), 50 / counts);
                previous = counts;
            } else {
                DUE.badArgument(x, "7: setCounts(" + counts + ")", () -> x.setCounts(tried));
            }
        }
        DUE.badArgument(x, "7: setCounts(least)", () -> x.setCounts(Integer.MIN_VALUE));
        DUE.badArgument(x, "7: setCounts(most)", () -> x.setCounts(Integer.MAX_VALUE));
        QuadSnail y = new QuadSnail();
        y.setCounts(24);
        DUE.is("7: the same counts are an action too", y.recordedStates(), 1);
    }
}
