/** Promises 16 to 24: states, positions, turns, places, directions, the count of A, leader, stepTo. */
public final class PositionsTest {
    private static final Due DUE = new Due("PositionsTest");

    public static void main(String[] args) {
        states();
        positions();
        positionsByTracks();
        turnsAndPlaces();
        directions();
        countsOfA();
        leaders();
        stepsTo();
        wrongInputs();
        DUE.end();
    }

    private static void states() {
        QuadSnail x = new QuadSnail();
        for (int snail = 0; snail < 4; snail++) {
            x.feel(snail, 3 - snail, 1);
        }
        for (int snail = 0; snail < 4; snail++) {
            DUE.is("16: stateOf " + snail, x.stateOf(snail), 3 - snail);
        }
    }

    private static void positions() {
        QuadSnail x = new QuadSnail();
        for (int snail = 0; snail < 4; snail++) {
            x.crawl(snail, 30 * snail - 40);
        }
        for (int snail = 0; snail < 4; snail++) {
            DUE.is("17: positionOf " + snail, x.positionOf(snail), 30 * snail - 40);
            DUE.is("18: positionByTracks " + snail, x.positionByTracks(snail), 30 * snail - 40);
        }
    }

    private static void positionsByTracks() {
        QuadSnail x = new QuadSnail();
        x.setRule(QuadSnail.FOLLOW);
        x.feel(0, 1, 1);
        DUE.is("18: track B", x.positionByTracks(0), 1);
        x.feel(0, 3, 1);
        DUE.is("18: track A", x.positionByTracks(0), 2);
        x.feel(0, 0, 1);
        DUE.is("18: an error", x.positionByTracks(0), 4);
        x.setCounts(8);
        x.crawl(0, 3);
        x.meetMark(0);
        DUE.is("18: less the mark", x.positionByTracks(0), 8);
        x.goBack(0, 1);
        DUE.is("18: less track A gone back", x.positionByTracks(0), 7);
        x.goBack(0, 3);
        DUE.is("18: less an error gone back", x.positionByTracks(0), 3);
        x.goBack(0, 2);
        DUE.is("18: the mark is left", x.positionByTracks(0), 1);
        DUE.is("17: the same", x.positionOf(0), 1);
    }

    private static void turnsAndPlaces() {
        for (int counts : new int[] {4, 12, 24, 400}) {
            QuadSnail x = new QuadSnail();
            x.setCounts(counts);
            x.crawl(1, -100);
            x.crawl(1, -100);
            for (int position = -200; position <= 0; position++) {
                int turns = -((-position + counts - 1) / counts);
                DUE.is("19: turns at " + position + " of " + counts, x.turnsOf(1), turns);
                DUE.is("20: place at " + position + " of " + counts, x.placeOf(1), position - turns * counts);
                x.crawl(1, 1);
            }
            for (int position = 1; position <= 50; position++) {
                DUE.is("19: turns at " + position + " of " + counts, x.turnsOf(1), position / counts);
                DUE.is("20: place at " + position + " of " + counts, x.placeOf(1), position % counts);
                x.crawl(1, 1);
            }
        }
    }

    private static void directions() {
        QuadSnail x = new QuadSnail();
        DUE.is("21: at first", x.directionOf(3), 0);
        x.feel(3, 0, 1);
        DUE.is("21: after a step of 0", x.directionOf(3), 0);
        x.feel(3, 2, 1);
        DUE.is("21: backward", x.directionOf(3), -1);
        x.feel(3, 2, 1);
        DUE.is("21: a step of 0 leaves it", x.directionOf(3), -1);
        x.feel(3, 1, 1);
        DUE.is("21: an ignored error leaves it", x.directionOf(3), -1);
        x.feel(3, 3, 1);
        DUE.is("21: forward", x.directionOf(3), 1);
        x.setRule(QuadSnail.FOLLOW);
        x.feel(3, 0, 1);
        DUE.is("21: of a followed error it is 1, not 2", x.directionOf(3), 1);
        x.goBack(3, 1);
        DUE.is("21: turned by going back", x.directionOf(3), -1);
        DUE.is("21: others have none", x.directionOf(0), 0);
    }

    private static void countsOfA() {
        QuadSnail x = new QuadSnail();
        int[] due = {0, 1, 1, 2, 2, 3, 3, 4};
        for (int number = 0; number < due.length; number++) {
            x.crawl(0, 1);
            DUE.is("22: forward " + number, x.countOfA(0), due[number]);
        }
        x.crawl(0, -8);
        DUE.is("22: there and back", x.countOfA(0), 0);
        x.crawl(0, -1);
        DUE.is("22: backward begins with A", x.countOfA(0), -1);
        x.setRule(QuadSnail.FOLLOW);
        x.feel(0, 1, 1);
        DUE.is("22: errors are no change of A alone", x.countOfA(0), -1);
        x.goBack(0, 2);
        DUE.is("22: gone back", x.countOfA(0), 0);
        DUE.is("22: others stay", x.countOfA(1), 0);
    }

    private static void leaders() {
        QuadSnail x = new QuadSnail();
        DUE.is("23: all at 0", x.leader(), 0);
        x.crawl(0, -1);
        DUE.is("23: the least of three", x.leader(), 1);
        x.crawl(3, 1);
        DUE.is("23: the last", x.leader(), 3);
        x.crawl(2, 1);
        DUE.is("23: of two the least", x.leader(), 2);
        x.crawl(3, 1);
        DUE.is("23: the greatest", x.leader(), 3);
        x.crawl(1, -4);
        x.crawl(2, -40);
        x.crawl(3, -40);
        DUE.is("23: the greatest below 0", x.leader(), 0);
    }

    private static void stepsTo() {
        QuadSnail x = new QuadSnail();
        int[][] steps = {{0, 1, -1, 9}, {-1, 0, 9, 1}, {1, 9, 0, -1}, {9, -1, 1, 0}};
        for (int direction = -1; direction <= 1; direction += 2) {
            for (int number = 0; number < 4; number++) {
                x.crawl(2, direction);
                int from = x.stateOf(2);
                for (int to = 0; to < 4; to++) {
                    int step = steps[from][to];
                    x.setRule(QuadSnail.IGNORE);
                    DUE.is("24: ignoring, " + from + " to " + to, x.stepTo(2, to), step == 9 ? 0 : step);
                    x.setRule(QuadSnail.FOLLOW);
                    Object before = Due.read(x);
                    DUE.is("24: following, " + from + " to " + to, x.stepTo(2, to), step == 9 ? 2 * direction : step);
                    DUE.isSame("24: nothing changes", Due.read(x), before);
                }
            }
        }
        QuadSnail y = new QuadSnail();
        y.setRule(QuadSnail.FOLLOW);
        DUE.is("24: following without a direction", y.stepTo(0, 3), 0);
    }

    private static void wrongInputs() {
        QuadSnail x = new QuadSnail();
        x.crawl(0, 3);
        for (int snail : new int[] {-1, 4, Integer.MIN_VALUE, Integer.MAX_VALUE}) {
            DUE.noSnail(x, "16: stateOf " + snail, () -> x.stateOf(snail));
            DUE.noSnail(x, "17: positionOf " + snail, () -> x.positionOf(snail));
            DUE.noSnail(x, "18: positionByTracks " + snail, () -> x.positionByTracks(snail));
            DUE.noSnail(x, "19: turnsOf " + snail, () -> x.turnsOf(snail));
            DUE.noSnail(x, "20: placeOf " + snail, () -> x.placeOf(snail));
            DUE.noSnail(x, "21: directionOf " + snail, () -> x.directionOf(snail));
            DUE.noSnail(x, "22: countOfA " + snail, () -> x.countOfA(snail));
            DUE.noSnail(x, "24: stepTo " + snail, () -> x.stepTo(snail, 0));
            DUE.noSnail(x, "24: stepTo and a wrong state " + snail, () -> x.stepTo(snail, 4));
            DUE.badArgument(x, "24: stepTo state " + snail, () -> x.stepTo(3, snail));
        }
    }
}
