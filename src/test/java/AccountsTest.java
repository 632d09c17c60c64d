/** Promises 25 to 33: the log and the accounts. */
public final class AccountsTest {
    private static final Due DUE = new Due("AccountsTest");

    public static void main(String[] args) {
        logs();
        speeds();
        errors();
        slips();
        distances();
        ticks();
        countsAndRule();
        wrongInputs();
        DUE.end();
    }

    private static void logs() {
        QuadSnail x = new QuadSnail();
        int[] steps = new int[40];
        int[] states = {0, 1, 3, 2};
        int place = 0;
        for (int number = 0; number < 40; number++) {
            steps[number] = number % 3 == 0 ? 0 : number % 5 == 0 ? -1 : 1;
            place = Math.floorMod(place + steps[number], 4);
            x.feel(1, states[place], 1);
            int length = Math.min(16, number + 1);
            DUE.is("25: logLength after " + (number + 1), x.logLength(1), length);
            for (int entry = 0; entry < length; entry++) {
                DUE.is("26: loggedStep " + entry, x.loggedStep(1, entry), steps[number + 1 - length + entry]);
            }
            DUE.noSnail(x, "26: one entry too far", () -> x.loggedStep(1, length));
        }
        x.goBack(1, 3);
        DUE.is("25: after going back", x.logLength(1), 13);
        DUE.is("26: the oldest stays", x.loggedStep(1, 0), steps[24]);
        DUE.is("26: the last now", x.loggedStep(1, 12), steps[36]);
        DUE.noSnail(x, "26: it is not in the log any more", () -> x.loggedStep(1, 13));
        x.meetMark(1);
        DUE.is("25: a mark is no feeling", x.logLength(1), 13);
        DUE.is("25: of another snail", x.logLength(0), 0);
        DUE.noSnail(x, "26: of an empty log", () -> x.loggedStep(0, 0));
    }

    private static void speeds() {
        QuadSnail x = new QuadSnail();
        DUE.isExactly("27: empty log", x.speedOf(0), 0.0);
        x.feel(0, 0, 3);
        DUE.isExactly("27: no steps", x.speedOf(0), 0.0);
        x.feel(0, 1, 4);
        DUE.isExactly("27: one step in seven ticks", x.speedOf(0), 1000.0 / 7.0);
        x.feel(0, 0, 1);
        DUE.isExactly("27: there and back", x.speedOf(0), 0.0);
        x.feel(0, 2, 1);
        DUE.isExactly("27: backward", x.speedOf(0), -1000.0 / 9.0);
        x.goBack(0, 4);
        DUE.isExactly("27: emptied log", x.speedOf(0), 0.0);
        x.crawl(0, 3);
        DUE.isExactly("27: gone back does not count", x.speedOf(0), 1000.0);
        x.feel(1, 1, 1000);
        DUE.isExactly("27: slow", x.speedOf(1), 1.0);
        x.crawl(1, 15);
        DUE.isExactly("27: sixteen", x.speedOf(1), 16000.0 / 1015.0);
        x.crawl(1, 1);
        DUE.isExactly("27: the slow one is out of the log", x.speedOf(1), 1000.0);
        x.setRule(QuadSnail.FOLLOW);
        x.feel(1, x.stateOf(1) ^ 3, 1);
        DUE.isExactly("27: with a followed error", x.speedOf(1), 17000.0 / 16.0);
        x.meetMark(1);
        DUE.isExactly("27: the mark changes no speed", x.speedOf(1), 17000.0 / 16.0);
    }

    private static void errors() {
        QuadSnail x = new QuadSnail();
        x.crawl(2, 1);
        DUE.is("28: none", x.errorsOf(2), 0);
        x.feel(2, 2, 1);
        DUE.is("28: ignored", x.errorsOf(2), 1);
        x.setRule(QuadSnail.FOLLOW);
        x.feel(2, 1, 1);
        DUE.is("28: followed", x.errorsOf(2), 2);
        x.goBack(2, 2);
        DUE.is("28: going back leaves them", x.errorsOf(2), 2);
        DUE.is("28: of another snail", x.errorsOf(1), 0);
        x.undo();
        x.undo();
        DUE.is("28: undo does not leave them", x.errorsOf(2), 1);
    }

    private static void slips() {
        QuadSnail x = new QuadSnail();
        DUE.is("29: none", x.slipsOf(0), 0);
        x.crawl(0, 5);
        x.meetMark(0);
        DUE.is("29: forward", x.slipsOf(0), 5);
        x.crawl(0, -7);
        x.meetMark(0);
        DUE.is("29: and backward", x.slipsOf(0), 12);
        x.meetMark(0);
        DUE.is("29: and nothing", x.slipsOf(0), 12);
        x.goBack(0, 3);
        DUE.is("29: going back leaves them", x.slipsOf(0), 12);
        DUE.is("29: of another snail", x.slipsOf(1), 0);
    }

    private static void distances() {
        QuadSnail x = new QuadSnail();
        x.crawl(3, 10);
        x.crawl(3, -4);
        DUE.is("30: both directions", x.distanceOf(3), 14);
        x.goBack(3, 6);
        DUE.is("30: and the way back", x.distanceOf(3), 20);
        x.setRule(QuadSnail.FOLLOW);
        x.feel(3, x.stateOf(3) ^ 3, 1);
        DUE.is("30: a followed error", x.distanceOf(3), 22);
        x.goBack(3, 1);
        DUE.is("30: and its way back", x.distanceOf(3), 24);
        x.setRule(QuadSnail.IGNORE);
        x.feel(3, x.stateOf(3) ^ 3, 1);
        x.feel(3, x.stateOf(3), 1);
        x.meetMark(3);
        DUE.is("30: what adds nothing", x.distanceOf(3), 24);
        DUE.is("30: of another snail", x.distanceOf(2), 0);
    }

    private static void ticks() {
        QuadSnail x = new QuadSnail();
        x.feel(0, 1, 1000);
        x.feel(0, 1, 10);
        x.crawl(0, 5);
        DUE.is("31: so far", x.ticksOf(0), 1015);
        x.goBack(0, 6);
        DUE.is("31: the way back takes as many", x.ticksOf(0), 1030);
        x.goBack(0, 1);
        DUE.is("31: each as many as it took", x.ticksOf(0), 2030);
        DUE.is("31: of another snail", x.ticksOf(1), 0);
    }

    private static void countsAndRule() {
        QuadSnail x = new QuadSnail();
        DUE.is("32: at first", x.counts(), 24);
        DUE.is("33: at first", x.rule(), 0);
        x.setCounts(400);
        DUE.is("32: counts", x.counts(), 400);
        x.setRule(QuadSnail.FOLLOW);
        DUE.is("33: rule", x.rule(), 1);
        x.undo();
        x.undo();
        DUE.is("32: undone", x.counts(), 24);
        DUE.is("33: undone", x.rule(), 0);
    }

    private static void wrongInputs() {
        QuadSnail x = new QuadSnail();
        x.crawl(0, 3);
        for (int wrong : new int[] {-1, 4, Integer.MIN_VALUE, Integer.MAX_VALUE}) {
            DUE.noSnail(x, "25: logLength " + wrong, () -> x.logLength(wrong));
            DUE.noSnail(x, "26: loggedStep of " + wrong, () -> x.loggedStep(wrong, 0));
            DUE.noSnail(x, "26: loggedStep entry " + wrong, () -> x.loggedStep(0, wrong));
            DUE.noSnail(x, "27: speedOf " + wrong, () -> x.speedOf(wrong));
            DUE.noSnail(x, "28: errorsOf " + wrong, () -> x.errorsOf(wrong));
            DUE.noSnail(x, "29: slipsOf " + wrong, () -> x.slipsOf(wrong));
            DUE.noSnail(x, "30: distanceOf " + wrong, () -> x.distanceOf(wrong));
            DUE.noSnail(x, "31: ticksOf " + wrong, () -> x.ticksOf(wrong));
        }
    }
}
