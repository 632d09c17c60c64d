/** Promises 25 to 33, sentence by sentence. */
final class AccountSentences {
    private final Sentences s;

    private AccountSentences(Sentences s) {
        this.s = s;
    }

    static void tell(Sentences s) {
        AccountSentences told = new AccountSentences(s);
        told.logLength();
        told.loggedStep();
        told.speedOf();
        told.errorsOf();
        told.slipsOf();
        told.distanceOf();
        told.ticksOf();
        told.countsAndRule();
    }

    private static QuadSnail crawled(int snail, int steps) {
        QuadSnail x = new QuadSnail();
        x.crawl(snail, steps);
        return x;
    }

    private void logLength() {
        s.promise(25, "Returns the number of feelings in the log of a snail.");
        QuadSnail x = new QuadSnail();
        for (int snail = 0; snail < 4; snail++) {
            x.crawl(snail, 6 * snail);
        }
        for (int snail = 0; snail < 4; snail++) {
            s.is("logLength(" + snail + ")", x.logLength(snail), Math.min(16, 6 * snail));
        }
        s.snails(25, QuadSnail::logLength);
        s.promise(25, "Returns 0 to 16.");
        s.is("of a new object", new QuadSnail().logLength(3), 0);
        for (int felt : new int[] {1, 15, 16, 17, 31, 32, 33, 100}) {
            s.is("after " + felt, crawled(3, felt).logLength(3), Math.min(16, felt));
        }
        QuadSnail y = crawled(3, 40);
        y.goBack(3, 16);
        s.is("after a way back over all", y.logLength(3), 0);
        y.feel(3, y.stateOf(3), 1);
        s.is("after a feeling of the same state", y.logLength(3), 1);
    }

    private void loggedStep() {
        s.promise(26, "Returns the step of a feeling in the log of a snail.");
        QuadSnail x = new QuadSnail();
        x.setRule(QuadSnail.FOLLOW);
        int[] states = {3, 2, 2, 1, 0, 3};
        int[] steps = {0, 1, 0, 2, -1, -2};
        for (int state : states) {
            x.feel(1, state, 1);
        }
        for (int entry = 0; entry < 6; entry++) {
            s.is("loggedStep(1, " + entry + ")", x.loggedStep(1, entry), steps[entry]);
        }
        x.setRule(QuadSnail.IGNORE);
        s.is("loggedStep(1, 5) under the other rule", x.loggedStep(1, 5), -2);
        s.promise(26, "- `snail`: 0 to 3");
        s.is("loggedStep(0, 0)", crawled(0, 1).loggedStep(0, 0), 1);
        s.is("loggedStep(3, 0)", crawled(3, -1).loggedStep(3, 0), -1);
        s.noSnails((y, snail) -> y.loggedStep(snail, 0));
        s.promise(26, "- `entry`: 0 for the oldest one");
        QuadSnail z = crawled(2, -1);
        z.crawl(2, 15);
        s.is("loggedStep(2, 0)", z.loggedStep(2, 0), -1);
        s.is("loggedStep(2, 15)", z.loggedStep(2, 15), 1);
        z.crawl(2, -1);
        s.is("loggedStep(2, 0) when the oldest one went", z.loggedStep(2, 0), 1);
        s.is("loggedStep(2, 15) when another one came", z.loggedStep(2, 15), -1);
        s.promise(26, "Returns the step.");
        s.is("of a feeling of the same state", felt(0, 0, 1).loggedStep(0, 0), 0);
        s.is("of a feeling forward", felt(0, 1, 1).loggedStep(0, 0), 1);
        s.is("of a feeling backward", felt(0, 2, 1).loggedStep(0, 0), -1);
        s.promise(26, "Throws `IndexOutOfBoundsException` if there is no such snail or entry");
        s.noSnails((y, snail) -> y.loggedStep(snail, -1));
        noEntries(0);
        noEntries(1);
        noEntries(15);
        noEntries(16);
        noEntries(40);
    }

    private void noEntries(int felt) {
        int length = Math.min(16, felt);
        for (int entry : new int[] {-1, length, 16, Integer.MIN_VALUE, Integer.MAX_VALUE}) {
            s.refused("loggedStep(0, " + entry + ") after " + felt, Sentences.INDEX, () -> crawled(0, felt),
                    x -> x.loggedStep(0, entry));
        }
    }

    private static QuadSnail felt(int snail, int state, int ticks) {
        QuadSnail x = new QuadSnail();
        x.feel(snail, state, ticks);
        return x;
    }

    private void speedOf() {
        s.promise(27, "Returns the speed of a snail by its log: 1000 times the sum of its steps, as a double, divided by "
                + "the sum of its ticks;");
        s.isExactly("one step in 1 tick", felt(0, 1, 1).speedOf(0), 1000.0);
        s.isExactly("one step in 1000 ticks", felt(0, 1, 1000).speedOf(0), 1.0);
        s.isExactly("one step in 3 ticks", felt(0, 1, 3).speedOf(0), 1000.0 / 3.0);
        s.isExactly("one step backward in 7 ticks", felt(0, 2, 7).speedOf(0), -1000.0 / 7.0);
        s.isExactly("no step in 7 ticks", felt(0, 0, 7).speedOf(0), 0.0);
        QuadSnail x = felt(0, 1, 999);
        x.crawl(0, 15);
        s.isExactly("sixteen", x.speedOf(0), 16000.0 / 1014.0);
        x.crawl(0, -1);
        s.isExactly("the latest sixteen", x.speedOf(0), 14000.0 / 16.0);
        QuadSnail slow = new QuadSnail();
        for (int number = 0; number < 16; number++) {
            slow.feel(0, 0, 1000);
        }
        slow.feel(0, 2, 1000);
        s.isExactly("the greatest sum of ticks", slow.speedOf(0), -1000.0 / 16000.0);
        s.promise(27, "0.0 if the log is empty.");
        s.isExactly("of a new object", new QuadSnail().speedOf(0), 0.0);
        QuadSnail y = crawled(0, 40);
        y.goBack(0, 16);
        s.isExactly("after a way back over all", y.speedOf(0), 0.0);
        s.isExactly("of another snail", crawled(1, 5).speedOf(2), 0.0);
        s.snails(27, QuadSnail::speedOf);
        s.promise(27, "Returns the speed.");
        QuadSnail z = crawled(3, 3);
        z.goBack(3, 2);
        s.isExactly("of what is left in the log", z.speedOf(3), 1000.0);
        z.feel(3, 2, 1);
        s.isExactly("with an error ignored", z.speedOf(3), 500.0);
    }

    private void errorsOf() {
        s.promise(28, "Returns the number of errors of a snail so far;");
        QuadSnail x = new QuadSnail();
        s.is("of a new object", x.errorsOf(1), 0);
        x.crawl(1, 9);
        x.feel(1, 1, 1);
        s.is("without one", x.errorsOf(1), 0);
        x.feel(1, 2, 1);
        s.is("with one ignored", x.errorsOf(1), 1);
        x.setRule(QuadSnail.FOLLOW);
        x.feel(1, 1, 1);
        s.is("with one followed", x.errorsOf(1), 2);
        s.is("of another snail", x.errorsOf(0), 0);
        for (int number = 0; number < 20; number++) {
            x.feel(1, x.stateOf(1) ^ 3, 1);
        }
        s.is("with more than the log holds", x.errorsOf(1), 22);
        s.promise(28, "going back leaves them.");
        x.goBack(1, 16);
        s.is("after goBack(1, 16)", x.errorsOf(1), 22);
        s.snails(28, QuadSnail::errorsOf);
        s.promise(28, "Returns the number of errors.");
        QuadSnail y = felt(2, 3, 1);
        s.is("under IGNORE", y.errorsOf(2), 1);
        y.undo();
        s.is("after undo()", y.errorsOf(2), 0);
        y.setRule(QuadSnail.FOLLOW);
        y.feel(2, 3, 1);
        s.is("under FOLLOW without a direction", y.errorsOf(2), 1);
    }

    private void slipsOf() {
        s.promise(29, "Returns the slips of a snail.");
        QuadSnail x = new QuadSnail();
        for (int snail = 0; snail < 4; snail++) {
            x.crawl(snail, 5 * snail);
            x.meetMark(snail);
        }
        int[] due = {0, 5, 10, 9};
        for (int snail = 0; snail < 4; snail++) {
            s.is("slipsOf(" + snail + ")", x.slipsOf(snail), due[snail]);
        }
        s.snails(29, QuadSnail::slipsOf);
        s.promise(29, "Returns the slips.");
        s.is("of a new object", new QuadSnail().slipsOf(0), 0);
        QuadSnail y = crawled(0, 12);
        y.meetMark(0);
        y.crawl(0, -1);
        y.meetMark(0);
        s.is("of 12 and -1", y.slipsOf(0), 13);
        y.goBack(0, 1);
        s.is("after a way back", y.slipsOf(0), 13);
    }

    private void distanceOf() {
        s.promise(30, "Returns the distance of a snail: the sizes of all its steps, and of those that it went back, "
                + "added.");
        QuadSnail x = new QuadSnail();
        s.is("of a new object", x.distanceOf(0), 0);
        x.crawl(0, 100);
        x.crawl(0, -100);
        s.is("there and back", x.distanceOf(0), 200);
        x.goBack(0, 16);
        s.is("with sixteen gone back", x.distanceOf(0), 216);
        x.feel(0, x.stateOf(0), 1);
        x.goBack(0, 1);
        s.is("with a step of 0 gone back", x.distanceOf(0), 216);
        x.feel(0, x.stateOf(0) ^ 3, 1);
        s.is("with an error ignored", x.distanceOf(0), 216);
        x.setRule(QuadSnail.FOLLOW);
        x.feel(0, x.stateOf(0) ^ 3, 1);
        s.is("with an error followed", x.distanceOf(0), 218);
        x.goBack(0, 2);
        s.is("with both gone back", x.distanceOf(0), 220);
        s.is("of another snail", x.distanceOf(1), 0);
        s.snails(30, QuadSnail::distanceOf);
        s.promise(30, "Returns the distance.");
        QuadSnail y = crawled(3, -7);
        s.is("backward", y.distanceOf(3), 7);
        y.meetMark(3);
        s.is("after a mark", y.distanceOf(3), 7);
    }

    private void ticksOf() {
        s.promise(31, "Returns the ticks of a snail so far.");
        QuadSnail x = new QuadSnail();
        s.is("of a new object", x.ticksOf(0), 0);
        x.feel(0, 0, 1000);
        s.is("after a feeling of 1000", x.ticksOf(0), 1000);
        x.crawl(0, 20);
        s.is("after twenty steps", x.ticksOf(0), 1020);
        x.meetMark(0);
        s.is("after a mark", x.ticksOf(0), 1020);
        x.goBack(0, 16);
        s.is("after sixteen gone back", x.ticksOf(0), 1036);
        s.is("of another snail", x.ticksOf(1), 0);
        s.snails(31, QuadSnail::ticksOf);
        s.promise(31, "Returns the number of ticks.");
        s.is("after a feeling of 1", felt(2, 2, 1).ticksOf(2), 1);
        QuadSnail y = felt(2, 2, 9);
        y.goBack(2, 1);
        s.is("there and back", y.ticksOf(2), 18);
    }

    private void countsAndRule() {
        s.promise(32, "Returns the counts of a turn.");
        QuadSnail x = new QuadSnail();
        s.is("counts() at first", x.counts(), 24);
        x.setCounts(4);
        s.is("counts() at the least", x.counts(), 4);
        x.setCounts(400);
        s.is("counts() at the most", x.counts(), 400);
        s.promise(33, "Returns the rule for errors.");
        s.is("rule() at first", x.rule(), QuadSnail.IGNORE);
        x.setRule(QuadSnail.FOLLOW);
        s.is("rule() after setRule(FOLLOW)", x.rule(), QuadSnail.FOLLOW);
        x.undo();
        s.is("rule() after undo()", x.rule(), QuadSnail.IGNORE);
    }
}
