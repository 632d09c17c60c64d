/**
 * The limits of ticks and distance. No object reaches them in its first 512 calls, so the document
 * leaves open what happens here; the test holds the program to the words of promises 2 to 5, 11 and
 * 12 all the same.
 */
public final class LimitsTest {
    private static final Due DUE = new Due("LimitsTest");
    private static final int LIMIT = 1000000000;

    public static void main(String[] args) {
        ticks();
        distance();
        DUE.end();
    }

    private static void ticks() {
        QuadSnail x = new QuadSnail();
        x.feel(0, 1, 990);
        for (int number = 1; number < LIMIT / 1000; number++) {
            x.feel(0, 1, 1000);
        }
        DUE.is("ticks near the limit", x.ticksOf(0), LIMIT - 10);
        DUE.badState(x, "2: feel above the limit", () -> x.feel(0, 3, 11));
        DUE.badState(x, "3: crawl above the limit", () -> x.crawl(0, 11));
        DUE.badState(x, "3: crawl above the limit, backward", () -> x.crawl(0, -11));
        DUE.badState(x, "5: goBack above the limit", () -> x.goBack(0, 1));
        wayBackUpToTheLimit(x);
        failing(x, "1m;0:13201320132", 1);
        failing(x, "0:13201;0:320132;1m", 1);
        failing(x, "0b1", 0);
        possible(x, "0:1320132013");
        DUE.is("3: crawl up to the limit", x.crawl(0, -9), -8);
        DUE.badState(x, "3: crawl above it", () -> x.crawl(0, 2));
        DUE.is("2: feel up to the limit", x.feel(0, 0, 1), 0);
        DUE.is("ticks at the limit", x.ticksOf(0), LIMIT);
        DUE.is("3: a crawl of nothing", x.crawl(0, 0), -8);
        DUE.badState(x, "2: feel at the limit", () -> x.feel(0, 0, 1));
        DUE.is("another snail has ticks left", x.feel(1, 1, 1000), 1);
    }

    /** With ten ticks left, six there leave four: too few for the way back, as five are enough for five. */
    private static void wayBackUpToTheLimit(QuadSnail x) {
        int position = x.positionOf(0);
        x.feel(0, 1, 6);
        DUE.badState(x, "5: one tick too many", () -> x.goBack(0, 1));
        x.undo();
        x.feel(0, 1, 5);
        DUE.is("5: goBack up to the limit", x.goBack(0, 1), position);
        DUE.is("5: ticks at the limit", x.ticksOf(0), LIMIT);
        x.undo();
        x.undo();
    }

    private static void distance() {
        QuadSnail x = new QuadSnail();
        x.setRule(QuadSnail.FOLLOW);
        x.crawl(0, 4);
        Due.write(x, "0:" + "30".repeat(39));
        for (int number = 0; number < LIMIT / 156; number++) {
            x.carryOut();
        }
        int left = LIMIT - x.distanceOf(0);
        DUE.is("distance near the limit", left, LIMIT % 156 - 4);
        x.crawl(0, left - 3);
        DUE.is("three are left", x.distanceOf(0), LIMIT - 3);
        DUE.badState(x, "3: crawl above the limit", () -> x.crawl(0, -4));
        DUE.badState(x, "5: goBack above the limit", () -> x.goBack(0, 4));
        failing(x, "0b4", 0);
        failing(x, "0:" + (x.stateOf(0) ^ 3) + x.stateOf(0), 0);
        failing(x, "0b2;1:1;0b2", 2);
        possible(x, "0:" + (x.stateOf(0) ^ 3));
        DUE.is("2: feel below the limit", x.feel(0, x.stateOf(0) ^ 3, 1), 2);
        DUE.badState(x, "2: feel above the limit", () -> x.feel(0, x.stateOf(0) ^ 3, 1));
        DUE.badState(x, "5: goBack over two", () -> x.goBack(0, 1));
        DUE.is("3: crawl up to the limit", x.crawl(0, -1), x.positionOf(0));
        DUE.is("distance at the limit", x.distanceOf(0), LIMIT);
        DUE.badState(x, "5: goBack at the limit", () -> x.goBack(0, 1));
        DUE.badState(x, "3: crawl at the limit", () -> x.crawl(0, 1));
        for (int next = 0; next < 4; next++) {
            int state = next;
            if (x.stepTo(0, state) != 0) {
                DUE.badState(x, "2: feel at the limit, to " + state, () -> x.feel(0, state, 1));
                failing(x, "0:" + state, 0);
            }
        }
        DUE.is("2: a feeling without a step goes on", x.feel(0, x.stateOf(0), 1), 0);
        DUE.is("5: so does its way back", x.goBack(0, 1), x.positionOf(0));
    }

    private static void failing(QuadSnail x, String text, int due) {
        Due.write(x, text);
        DUE.is("11: impossibleOrder of " + text, x.impossibleOrder(), due);
        DUE.badState(x, "12: carryOut of " + text, () -> x.carryOut());
    }

    private static void possible(QuadSnail x, String text) {
        Due.write(x, text);
        DUE.is("11: impossibleOrder of " + text, x.impossibleOrder(), QuadSnail.NONE);
    }
}
