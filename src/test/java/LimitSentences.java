/**
 * The limits of ticks and distance, sentence by sentence. No object reaches them in its first 512
 * calls, so the document leaves open what happens here; the tests hold the program to its words all
 * the same.
 */
final class LimitSentences {
    private static final String ABOVE = "if its ticks, or its distance, would be above 1000000000";
    private static final int LIMIT = 1000000000;
    private static final int TICKS_LEFT = 10;
    private static final int DISTANCE_LEFT = 3;

    private final Sentences s;
    private final QuadSnail old = nearTicks();
    private final QuadSnail far = nearDistance();

    private LimitSentences(Sentences s) {
        this.s = s;
    }

    static void tell(Sentences s) {
        LimitSentences told = new LimitSentences(s);
        told.feel();
        told.crawl();
        told.goBack();
        told.impossibleOrder();
        told.carryOut();
    }

    /** Snail 0 has ten ticks left and stands in state 1; its snapshot says so. */
    private static QuadSnail nearTicks() {
        QuadSnail x = new QuadSnail();
        x.feel(0, 1, 1000 - TICKS_LEFT);
        for (int number = 1; number < LIMIT / 1000; number++) {
            x.feel(0, 1, 1000);
        }
        x.takeSnapshot();
        return x;
    }

    /** Snail 0 has a distance of three left, in state 1 and forward, and follows errors; as above. */
    private static QuadSnail nearDistance() {
        QuadSnail x = new QuadSnail();
        x.setRule(QuadSnail.FOLLOW);
        x.crawl(0, 4);
        Sentences.type(x, "0:" + "30".repeat(39));
        for (int number = 0; number < LIMIT / 156; number++) {
            x.carryOut();
        }
        x.crawl(0, LIMIT - DISTANCE_LEFT - x.distanceOf(0));
        x.takeSnapshot();
        return x;
    }

    private void feel() {
        s.promise(2, "Throws `IllegalStateException` " + ABOVE);
        s.is("ticksOf(0)", old.ticksOf(0), LIMIT - TICKS_LEFT);
        s.refusedOn(old, "feel(0, 3, 11)", Sentences.STATE, x -> x.feel(0, 3, 11));
        s.refusedOn(old, "feel(0, 3, 1000)", Sentences.STATE, x -> x.feel(0, 3, 1000));
        s.refusedOn(old, "feel(0, 4, 11)", Sentences.ARGUMENT, x -> x.feel(0, 4, 11));
        s.is("feel(0, 3, 10)", old.feel(0, 3, 10), 1);
        s.is("ticksOf(0) then", old.ticksOf(0), LIMIT);
        s.refusedOn(old, "feel(0, 3, 1) at the limit", Sentences.STATE, x -> x.feel(0, 3, 1));
        s.is("feel(1, 1, 1000) of another snail", old.feel(1, 1, 1000), 1);
        old.restoreSnapshot();
        s.is("distanceOf(0)", far.distanceOf(0), LIMIT - DISTANCE_LEFT);
        s.is("feel(0, 2, 1) over 2 of 3", far.feel(0, 2, 1), 2);
        s.refusedOn(far, "feel(0, 1, 1) over 2 of 1", Sentences.STATE, x -> x.feel(0, 1, 1));
        s.is("feel(0, 3, 1) over 1 of 1", far.feel(0, 3, 1), -1);
        s.is("distanceOf(0) then", far.distanceOf(0), LIMIT);
        for (int state : new int[] {0, 1, 2}) {
            s.refusedOn(far, "feel(0, " + state + ", 1) at the limit", Sentences.STATE, x -> x.feel(0, state, 1));
        }
        s.is("feel(0, 3, 1) at the limit, which is no step", far.feel(0, 3, 1), 0);
        far.restoreSnapshot();
    }

    private void crawl() {
        s.promise(3, "Throws `IllegalStateException` " + ABOVE);
        s.refusedOn(old, "crawl(0, 11) of ten ticks", Sentences.STATE, x -> x.crawl(0, 11));
        s.refusedOn(old, "crawl(0, -11) of ten ticks", Sentences.STATE, x -> x.crawl(0, -11));
        s.refusedOn(old, "crawl(0, 101) of ten ticks", Sentences.ARGUMENT, x -> x.crawl(0, 101));
        s.is("crawl(0, -10)", old.crawl(0, -10), -9);
        s.is("ticksOf(0) then", old.ticksOf(0), LIMIT);
        s.is("crawl(0, 0) at the limit", old.crawl(0, 0), -9);
        s.refusedOn(old, "crawl(0, 1) at the limit", Sentences.STATE, x -> x.crawl(0, 1));
        old.restoreSnapshot();
        int position = far.positionOf(0);
        s.refusedOn(far, "crawl(0, 4) of a distance of three", Sentences.STATE, x -> x.crawl(0, 4));
        s.refusedOn(far, "crawl(0, -4) of a distance of three", Sentences.STATE, x -> x.crawl(0, -4));
        s.is("crawl(0, -3)", far.crawl(0, -3), position - 3);
        s.is("distanceOf(0) then", far.distanceOf(0), LIMIT);
        s.is("crawl(0, 0) at the limit", far.crawl(0, 0), position - 3);
        s.refusedOn(far, "crawl(0, -1) at the limit", Sentences.STATE, x -> x.crawl(0, -1));
        far.restoreSnapshot();
    }

    private void goBack() {
        s.promise(5, ", or its ticks, or its distance, would be above 1000000000");
        s.refusedOn(old, "goBack(0, 1) over 1000 of ten ticks", Sentences.STATE, x -> x.goBack(0, 1));
        old.feel(0, 1, 6);
        s.refusedOn(old, "goBack(0, 1) over six of four ticks", Sentences.STATE, x -> x.goBack(0, 1));
        old.undo();
        old.feel(0, 1, 2);
        old.feel(0, 1, 3);
        s.refusedOn(old, "goBack(0, 3) over 1005 of five ticks", Sentences.STATE, x -> x.goBack(0, 3));
        s.is("goBack(0, 2) over five of five ticks", old.goBack(0, 2), 1);
        s.is("ticksOf(0) then", old.ticksOf(0), LIMIT);
        old.restoreSnapshot();
        int position = far.positionOf(0);
        s.refusedOn(far, "goBack(0, 4) over four of three", Sentences.STATE, x -> x.goBack(0, 4));
        s.is("goBack(0, 3) over three of three", far.goBack(0, 3), position - 3);
        s.is("distanceOf(0) then", far.distanceOf(0), LIMIT);
        s.refusedOn(far, "goBack(0, 1) at the limit", Sentences.STATE, x -> x.goBack(0, 1));
        far.feel(0, far.stateOf(0), 1);
        s.is("goBack(0, 1) at the limit over no step", far.goBack(0, 1), position - 3);
        far.restoreSnapshot();
        far.feel(0, 2, 1);
        s.refusedOn(far, "goBack(0, 1) over two of one", Sentences.STATE, x -> x.goBack(0, 1));
        far.restoreSnapshot();
    }

    private void impossibleOrder() {
        s.promise(11, "Finds the first order of the text that could not be carried out, if the orders were carried out "
                + "now, one after the other.");
        impossible(old, "0:3201320132", QuadSnail.NONE);
        impossible(old, "0:32013201320", 0);
        impossible(old, "1m;0:32013;0:201320;1m", 2);
        impossible(old, "1:1;0b1", 1);
        impossible(old, "0:32013;0b5", QuadSnail.NONE);
        impossible(old, "0:320132;0b5", 1);
        impossible(far, "0:320", QuadSnail.NONE);
        impossible(far, "0:3201", 0);
        impossible(far, "0:23", QuadSnail.NONE);
        impossible(far, "0:21", 0);
        impossible(far, "0b3;1m;0:1", 2);
        impossible(far, "0b3;0:22", 1);
        impossible(far, "0:2;0b1", 1);
    }

    private void impossible(QuadSnail x, String text, int due) {
        Sentences.type(x, text);
        s.is("impossibleOrder() of " + text, x.impossibleOrder(), due);
    }

    private void carryOut() {
        s.promise(12, "Throws `IllegalStateException` if the text is not valid, or an order cannot be carried out");
        refused(old, "0:32013201320");
        refused(old, "0:32013;1m;0b1;0:320132");
        refused(far, "0:3201");
        refused(far, "1:1;0b2;0:21");
        Sentences.type(old, "0:3201320132");
        s.is("carryOut() up to the limit of ticks", old.carryOut(), 1);
        s.is("ticksOf(0) then", old.ticksOf(0), LIMIT);
        Sentences.type(far, "0b2;0:3");
        s.is("carryOut() up to the limit of distance", far.carryOut(), 2);
        s.is("distanceOf(0) then", far.distanceOf(0), LIMIT);
    }

    private void refused(QuadSnail x, String text) {
        Sentences.type(x, text);
        s.refusedOn(x, "carryOut() of " + text, Sentences.STATE, QuadSnail::carryOut);
    }
}
