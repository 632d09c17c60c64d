/** Promises 16 to 24, sentence by sentence. */
final class PositionSentences {
    private final Sentences s;

    private PositionSentences(Sentences s) {
        this.s = s;
    }

    static void tell(Sentences s) {
        PositionSentences told = new PositionSentences(s);
        told.stateOf();
        told.positionOf();
        told.positionByTracks();
        told.goneBackByTracks();
        told.turnsOf();
        told.placeOf();
        told.directionOf();
        told.countOfA();
        told.leader();
        told.stepTo();
    }

    private static QuadSnail crawled(int snail, int steps) {
        QuadSnail x = new QuadSnail();
        x.crawl(snail, steps);
        return x;
    }

    private void stateOf() {
        s.promise(16, "Returns the state of a snail.");
        QuadSnail x = new QuadSnail();
        for (int snail = 0; snail < 4; snail++) {
            x.feel(snail, 3 - snail, 1);
        }
        for (int snail = 0; snail < 4; snail++) {
            s.is("stateOf(" + snail + ")", x.stateOf(snail), 3 - snail);
        }
        s.snails(16, QuadSnail::stateOf);
        s.promise(16, "Returns the state.");
        int[] ring = {0, 1, 3, 2};
        for (int steps = -5; steps <= 5; steps++) {
            s.is("stateOf(1) after " + steps, crawled(1, steps).stateOf(1), ring[(steps + 8) % 4]);
        }
    }

    private void positionOf() {
        s.promise(17, "Returns the position of a snail.");
        QuadSnail x = new QuadSnail();
        for (int snail = 0; snail < 4; snail++) {
            x.crawl(snail, 10 * snail - 15);
        }
        for (int snail = 0; snail < 4; snail++) {
            s.is("positionOf(" + snail + ")", x.positionOf(snail), 10 * snail - 15);
        }
        s.snails(17, QuadSnail::positionOf);
        s.promise(17, "Returns the position.");
        for (int steps : new int[] {-100, -1, 0, 1, 100}) {
            s.is("positionOf(0) after " + steps, crawled(0, steps).positionOf(0), steps);
        }
    }

    private void positionByTracks() {
        s.promise(18, "Returns the same, told by accounts: the changes of track A alone, forward less backward, plus "
                + "those of track B alone likewise, plus the steps of errors, less what the snail was off by at marks;");
        s.is("of a new object", new QuadSnail().positionByTracks(0), 0);
        for (int steps = -9; steps <= 9; steps++) {
            s.is("after " + steps, crawled(3, steps).positionByTracks(3), steps);
        }
        QuadSnail x = new QuadSnail();
        x.feel(0, 3, 1);
        s.is("after an error ignored", x.positionByTracks(0), 0);
        x.setRule(QuadSnail.FOLLOW);
        x.feel(0, 2, 1);
        x.feel(0, 1, 1);
        s.is("after an error of 2", x.positionByTracks(0), 3);
        x.feel(0, 0, 1);
        x.feel(0, 3, 1);
        s.is("after an error of -2", x.positionByTracks(0), 0);
        x.crawl(0, 13);
        x.meetMark(0);
        s.is("after a mark of -11", x.positionByTracks(0), 24);
        x.crawl(0, 12);
        x.meetMark(0);
        s.is("after a mark of 12", x.positionByTracks(0), 24);
        s.snails(18, QuadSnail::positionByTracks);
        s.promise(18, "Returns the position.");
        for (int snail = 0; snail < 4; snail++) {
            QuadSnail y = Sentences.busy();
            s.is("positionByTracks(" + snail + ")", y.positionByTracks(snail), y.positionOf(snail));
        }
    }

    private void goneBackByTracks() {
        s.promise(18, "what is gone back counts as if it had not been.");
        QuadSnail x = new QuadSnail();
        x.setRule(QuadSnail.FOLLOW);
        x.crawl(0, 3);
        x.feel(0, 1, 1);
        x.feel(0, 0, 1);
        for (int due : new int[] {5, 3, 2, 1, 0}) {
            x.goBack(0, 1);
            s.is("positionByTracks(0)", x.positionByTracks(0), due);
            s.is("positionOf(0)", x.positionOf(0), due);
        }
        x.crawl(0, 5);
        x.meetMark(0);
        x.goBack(0, 5);
        s.is("positionByTracks(0), as the mark is not gone back", x.positionByTracks(0), -5);
        s.is("positionOf(0)", x.positionOf(0), -5);
    }

    private void turnsOf() {
        s.promise(19, "Returns the turns of a snail.");
        QuadSnail x = new QuadSnail();
        for (int snail = 0; snail < 4; snail++) {
            x.crawl(snail, 24 * snail - 12);
        }
        for (int snail = 0; snail < 4; snail++) {
            s.is("turnsOf(" + snail + ")", x.turnsOf(snail), snail - 1);
        }
        s.snails(19, QuadSnail::turnsOf);
        s.promise(19, "Returns the turns.");
        int[][] turns = {{0, 0}, {1, 0}, {23, 0}, {24, 1}, {25, 1}, {47, 1}, {48, 2}, {-1, -1}, {-23, -1}, {-24, -1},
            {-25, -2}, {-48, -2}, {-49, -3}};
        for (int[] turn : turns) {
            s.is("turnsOf(0) at " + turn[0], crawled(0, turn[0]).turnsOf(0), turn[1]);
        }
        s.term(19, "The turns of a snail are its position divided by the counts of a turn, rounded down (toward the "
                + "more negative number),");
        int[][] more = {{4, 3, 0}, {4, 4, 1}, {4, -1, -1}, {4, -4, -1}, {4, -5, -2}, {400, 100, 0}, {400, -1, -1},
            {400, -100, -1}};
        for (int[] one : more) {
            QuadSnail y = crawled(2, one[1]);
            y.setCounts(one[0]);
            s.is("turnsOf(2) at " + one[1] + " of " + one[0], y.turnsOf(2), one[2]);
        }
    }

    private void placeOf() {
        s.promise(20, "Returns the place of a snail.");
        QuadSnail x = new QuadSnail();
        for (int snail = 0; snail < 4; snail++) {
            x.crawl(snail, 25 * snail - 50);
        }
        for (int snail = 0; snail < 4; snail++) {
            s.is("placeOf(" + snail + ")", x.placeOf(snail), (25 * snail - 50 + 72) % 24);
        }
        s.snails(20, QuadSnail::placeOf);
        s.promise(20, "Returns the place.");
        int[][] places = {{0, 0}, {1, 1}, {23, 23}, {24, 0}, {25, 1}, {-1, 23}, {-23, 1}, {-24, 0}, {-25, 23}};
        for (int[] place : places) {
            s.is("placeOf(0) at " + place[0], crawled(0, place[0]).placeOf(0), place[1]);
        }
        s.term(20, "its place is what is left of that, from 0 on.");
        for (int counts : new int[] {4, 8, 400}) {
            for (int position : new int[] {-100, -9, -8, -7, -4, -1, 0, 1, 3, 4, 8, 9, 100}) {
                QuadSnail y = crawled(1, position);
                y.setCounts(counts);
                s.is("placeOf(1) at " + position + " of " + counts, y.placeOf(1), position - y.turnsOf(1) * counts);
                s.is("it is from 0 on", y.placeOf(1) >= 0 && y.placeOf(1) < counts ? 1 : 0, 1);
            }
        }
    }

    private void directionOf() {
        s.promise(21, "Returns the direction of a snail.");
        QuadSnail x = crawled(2, -1);
        x.crawl(1, 1);
        int[] due = {0, 1, -1, 0};
        for (int snail = 0; snail < 4; snail++) {
            s.is("directionOf(" + snail + ")", x.directionOf(snail), due[snail]);
        }
        s.snails(21, QuadSnail::directionOf);
        s.promise(21, "Returns 1, -1 or 0.");
        QuadSnail y = new QuadSnail();
        y.setRule(QuadSnail.FOLLOW);
        s.is("at first", y.directionOf(0), 0);
        y.feel(0, 0, 1);
        s.is("after a step of 0", y.directionOf(0), 0);
        y.feel(0, 3, 1);
        s.is("after an error of 0", y.directionOf(0), 0);
        y.crawl(0, 1);
        s.is("after a step of 1", y.directionOf(0), 1);
        y.feel(0, 1, 1);
        s.is("after a step of 2", y.directionOf(0), 1);
        y.feel(0, 1, 1);
        s.is("after another step of 0", y.directionOf(0), 1);
        y.crawl(0, -1);
        s.is("after a step of -1", y.directionOf(0), -1);
        y.feel(0, y.stateOf(0) ^ 3, 1);
        s.is("after a step of -2", y.directionOf(0), -1);
        y.meetMark(0);
        s.is("after a mark", y.directionOf(0), -1);
    }

    private void countOfA() {
        s.promise(22, "Returns the count of track A of a snail: its changes alone, forward less backward.");
        int[] due = {-2, -2, -1, -1, 0, 0, 1, 1, 2, 2};
        for (int steps = -4; steps <= 5; steps++) {
            s.is("countOfA(0) after " + steps, crawled(0, steps).countOfA(0), due[steps + 4]);
            s.is("countOfA(1) after it", crawled(0, steps).countOfA(1), 0);
        }
        QuadSnail x = crawled(0, 1);
        x.setRule(QuadSnail.FOLLOW);
        x.feel(0, 2, 1);
        s.is("countOfA(0), as A has not changed alone", x.countOfA(0), 0);
        x.setRule(QuadSnail.IGNORE);
        x.feel(0, 1, 1);
        s.is("countOfA(0), as A has not changed alone this time either", x.countOfA(0), 0);
        s.snails(22, QuadSnail::countOfA);
        s.promise(22, "Returns the count.");
        QuadSnail y = crawled(3, 2);
        s.is("there", y.countOfA(3), 1);
        y.crawl(3, -2);
        s.is("and back", y.countOfA(3), 0);
        y.crawl(3, 2);
        y.goBack(3, 1);
        s.is("gone back", y.countOfA(3), 0);
        y.meetMark(3);
        s.is("after a mark", y.countOfA(3), 0);
    }

    private void leader() {
        s.promise(23, "Returns the snail with the greatest position, of several the one with the least number.");
        s.is("of a new object", new QuadSnail().leader(), 0);
        int[][] positions = {{0, 0, 0, 1, 3}, {0, 0, 1, 1, 2}, {0, 1, 1, 1, 1}, {1, 1, 1, 1, 0}, {-1, 0, 0, 0, 1},
            {-1, -1, 0, 0, 2}, {-1, -1, -1, 0, 3}, {-9, -8, -7, -7, 2}, {-1, -1, -1, -1, 0}, {5, 9, 9, 5, 1},
            {100, 99, 98, -100, 0}};
        for (int[] row : positions) {
            QuadSnail x = new QuadSnail();
            for (int snail = 0; snail < 4; snail++) {
                x.crawl(snail, row[snail]);
            }
            s.is("of " + row[0] + ", " + row[1] + ", " + row[2] + ", " + row[3], x.leader(), row[4]);
        }
    }

    private void stepTo() {
        s.promise(24, "Returns the step that a feeling would be now; nothing changes.");
        QuadSnail x = Sentences.busy();
        Object before = Due.read(x);
        for (int snail = 0; snail < 4; snail++) {
            for (int state = 0; state < 4; state++) {
                int step = x.stepTo(snail, state);
                s.is("feel(" + snail + ", " + state + ", 1)", Sentences.busy().feel(snail, state, 1), step);
            }
        }
        s.isSame("what stands after it", Due.read(x), before);
        s.snails(24, (y, snail) -> y.stepTo(snail, 1));
        s.noSnails((y, snail) -> y.stepTo(snail, 4));
        s.promise(24, "- `state`: 0 to 3");
        s.is("stepTo(0, 0)", new QuadSnail().stepTo(0, 0), 0);
        s.is("stepTo(0, 3)", new QuadSnail().stepTo(0, 3), 0);
        noStates();
        s.promise(24, "Returns the step.");
        QuadSnail y = new QuadSnail();
        y.setRule(QuadSnail.FOLLOW);
        s.is("an error without a direction", y.stepTo(0, 3), 0);
        y.crawl(0, -4);
        int[] due = {0, 1, -1, -2};
        for (int state = 0; state < 4; state++) {
            s.is("stepTo(0, " + state + ")", y.stepTo(0, state), due[state]);
        }
        s.promise(24, "Throws `IllegalArgumentException` if state is out of range");
        noStates();
    }

    private void noStates() {
        for (int state : Sentences.NO_SNAILS) {
            s.refused("stepTo(0, " + state + ")", Sentences.ARGUMENT, x -> x.stepTo(0, state));
        }
    }
}
