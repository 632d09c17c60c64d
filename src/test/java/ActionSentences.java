/** Promises 1 to 7, sentence by sentence. */
final class ActionSentences {
    private static final String TO_16 = "The latest 16 feelings of a snail, with their step and ticks and the state "
            + "before, are in its log.";

    private final Sentences s;

    private ActionSentences(Sentences s) {
        this.s = s;
    }

    static void tell(Sentences s) {
        ActionSentences told = new ActionSentences(s);
        told.newObject();
        told.feel();
        told.feelArguments();
        told.feelTerms();
        told.errorTerms();
        told.crawl();
        told.crawlSteps();
        told.meetMark();
        told.meetMarkTerms();
        told.goBack();
        told.goBackFeelings();
        told.goBackTerms();
        told.goBackDirection();
        told.setRule();
        told.setCounts();
    }

    private void newObject() {
        s.promise(1, "Creates four snails at position 0.");
        QuadSnail x = new QuadSnail();
        for (int snail = 0; snail < 4; snail++) {
            s.is("positionOf(" + snail + ")", x.positionOf(snail), 0);
            s.is("positionByTracks(" + snail + ")", x.positionByTracks(snail), 0);
        }
        s.refused("a fifth snail: positionOf(4)", Sentences.INDEX, QuadSnail::new, y -> y.positionOf(4));
        s.term(1, "There are 4 snails, 0 to 3.");
        s.is("stateOf(0)", x.stateOf(0), 0);
        s.is("stateOf(3)", x.stateOf(3), 0);
        s.refused("stateOf(-1)", Sentences.INDEX, QuadSnail::new, y -> y.stateOf(-1));
        s.refused("stateOf(4)", Sentences.INDEX, QuadSnail::new, y -> y.stateOf(4));
        s.term(1, "The position of a snail (0 at first) changes by each step.");
        s.is("positionOf(3)", x.positionOf(3), 0);
        x.feel(3, 2, 1);
        s.is("positionOf(3) after a step of -1", x.positionOf(3), -1);
        x.feel(3, 2, 1);
        s.is("positionOf(3) after a step of 0", x.positionOf(3), -1);
        x.setRule(QuadSnail.FOLLOW);
        x.feel(3, 1, 1);
        s.is("positionOf(3) after a step of -2", x.positionOf(3), -3);
        x.feel(3, 3, 1);
        s.is("positionOf(3) after a step of 1", x.positionOf(3), -2);
    }

    private void feel() {
        s.promise(2, "Lets a snail feel a state.");
        QuadSnail x = new QuadSnail();
        x.feel(2, 1, 1);
        for (int snail = 0; snail < 4; snail++) {
            s.is("stateOf(" + snail + ") after feel(2, 1, 1)", x.stateOf(snail), snail == 2 ? 1 : 0);
            s.is("logLength(" + snail + ") after feel(2, 1, 1)", x.logLength(snail), snail == 2 ? 1 : 0);
        }
        s.action(2, "This is an action.", y -> y.feel(1, 1, 1000));
        s.snails(2, (y, snail) -> y.feel(snail, 1, 1));
        s.noSnails((y, snail) -> y.feel(snail, 4, 1));
        s.noSnails((y, snail) -> y.feel(snail, 0, 0));
        s.promise(2, "Returns the step.");
        QuadSnail z = new QuadSnail();
        s.is("feel(0, 0, 1), the same", z.feel(0, 0, 1), 0);
        s.is("feel(0, 1, 1), forward", z.feel(0, 1, 1), 1);
        s.is("feel(0, 0, 1), backward", z.feel(0, 0, 1), -1);
        s.is("feel(0, 3, 1), an error ignored", z.feel(0, 3, 1), 0);
        z.setRule(QuadSnail.FOLLOW);
        s.is("feel(0, 0, 1), an error followed backward", z.feel(0, 0, 1), -2);
        z.feel(0, 1, 1);
        s.is("feel(0, 2, 1), an error followed forward", z.feel(0, 2, 1), 2);
    }

    private void feelArguments() {
        s.promise(2, "- `state`: 0 to 3");
        QuadSnail x = new QuadSnail();
        for (int state : new int[] {3, 0, 2, 1}) {
            x.feel(0, state, 1);
            s.is("stateOf(0) after feel(0, " + state + ", 1)", x.stateOf(0), state);
        }
        for (int state : Sentences.NO_SNAILS) {
            s.refused("feel(0, " + state + ", 1)", Sentences.ARGUMENT, y -> y.feel(0, state, 1));
        }
        s.promise(2, "- `ticks`: 1 to 1000");
        x.feel(3, 0, 1);
        s.is("ticksOf(3) after feel(3, 0, 1)", x.ticksOf(3), 1);
        x.feel(3, 0, 1000);
        s.is("ticksOf(3) after feel(3, 0, 1000)", x.ticksOf(3), 1001);
        int[] noTicks = {0, -1, -1000, 1001, Integer.MIN_VALUE, Integer.MAX_VALUE};
        for (int ticks : noTicks) {
            s.refused("feel(3, 0, " + ticks + ")", Sentences.ARGUMENT, y -> y.feel(3, 0, ticks));
        }
        s.promise(2, "Throws `IllegalArgumentException` if another argument is out of range");
        s.refused("feel(1, 4, 1)", Sentences.ARGUMENT, y -> y.feel(1, 4, 1));
        s.refused("feel(1, 0, 0)", Sentences.ARGUMENT, y -> y.feel(1, 0, 0));
        s.refused("feel(1, -1, 1001)", Sentences.ARGUMENT, y -> y.feel(1, -1, 1001));
    }

    private void feelTerms() {
        int[] ring = {0, 1, 3, 2};
        s.term(2, "Each has two tracks, A and B, which are 0 or 1; together they are the state: 2 * A + B, 0 to 3 "
                + "(0 at first).");
        QuadSnail x = new QuadSnail();
        s.is("stateOf(1) at first", x.stateOf(1), 0);
        x.feel(1, 2, 1);
        s.is("countOfA(1) when A alone changes from 0 to 2", x.countOfA(1), -1);
        x.feel(1, 3, 1);
        s.is("countOfA(1) when B alone changes from 2 to 3", x.countOfA(1), -1);
        s.term(2, "Forward, the states follow each other as 0, 1, 3, 2, and again 0; backward, in the opposite order.");
        QuadSnail y = new QuadSnail();
        for (int place = 1; place <= 9; place++) {
            s.is("forward to " + ring[place % 4], y.feel(0, ring[place % 4], 1), 1);
        }
        for (int place = 8; place >= 0; place--) {
            s.is("backward to " + ring[place % 4], y.feel(0, ring[place % 4], 1), -1);
        }
        s.is("backward from 0 to 2", y.feel(0, 2, 1), -1);
        s.term(2, "When a snail feels a state, it is a step of 1 if it is the next one forward, of -1 if it is the next "
                + "one backward, of 0 if it is the same state.");
        for (int place = 0; place < 4; place++) {
            for (int change = -1; change <= 1; change++) {
                QuadSnail z = new QuadSnail();
                z.crawl(0, place);
                z.setRule(QuadSnail.FOLLOW);
                int next = ring[(place + change + 4) % 4];
                s.is("from " + ring[place] + " to " + next, z.feel(0, next, 1), change);
            }
        }
        s.term(2, "Each feeling takes some ticks.");
        s.is("ticksOf(0) after 19 feelings of 1 tick", y.ticksOf(0), 19);
        y.feel(0, 2, 1000);
        s.is("ticksOf(0) after another one of 1000 ticks", y.ticksOf(0), 1019);
    }

    private void errorTerms() {
        int[] opposite = {3, 2, 1, 0};
        s.term(2, "If both tracks change at once, it is an error: with the rule IGNORE (as at first) its step is 0,");
        for (int steps = -4; steps <= 4; steps++) {
            QuadSnail x = new QuadSnail();
            x.crawl(0, steps);
            int from = x.stateOf(0);
            s.is("feel(0, " + opposite[from] + ", 1) from " + from, x.feel(0, opposite[from], 1), 0);
            s.is("its state", x.stateOf(0), opposite[from]);
            s.is("its errors", x.errorsOf(0), 1);
            s.is("its position", x.positionOf(0), steps);
        }
        s.term(2, "with the rule FOLLOW it is 2 in the direction of the snail, which is that of its latest step that "
                + "was not 0 (1 or -1; 0 at first, so that the step is 0 as well).");
        for (int steps = -4; steps <= 4; steps++) {
            QuadSnail x = new QuadSnail();
            x.setRule(QuadSnail.FOLLOW);
            x.crawl(0, steps);
            x.feel(0, x.stateOf(0), 1);
            int due = 2 * Integer.signum(steps);
            int from = x.stateOf(0);
            s.is("feel(0, " + opposite[from] + ", 1) after crawl(0, " + steps + ")", x.feel(0, opposite[from], 1), due);
            s.is("the error back", x.feel(0, from, 1), due);
            s.is("its position", x.positionOf(0), steps + 2 * due);
            s.is("its errors", x.errorsOf(0), 2);
            s.is("its direction", x.directionOf(0), Integer.signum(steps));
        }
    }

    private void crawl() {
        s.promise(3, "Lets a snail make steps of one direction, by feeling the states one after the other, each for 1 "
                + "tick.");
        QuadSnail x = new QuadSnail();
        x.crawl(0, 0);
        s.is("logLength(0) after crawl(0, 0)", x.logLength(0), 0);
        s.is("ticksOf(0) after crawl(0, 0)", x.ticksOf(0), 0);
        s.is("directionOf(0) after crawl(0, 0)", x.directionOf(0), 0);
        x.crawl(0, 5);
        s.is("stateOf(0) once round and one more", x.stateOf(0), 1);
        s.is("logLength(0) after five steps", x.logLength(0), 5);
        s.is("ticksOf(0) after five steps", x.ticksOf(0), 5);
        s.isExactly("speedOf(0) after five steps", x.speedOf(0), 1000.0);
        x.crawl(0, -7);
        s.is("stateOf(0) backward beyond 0", x.stateOf(0), 3);
        s.is("ticksOf(0) after seven more", x.ticksOf(0), 12);
        s.is("loggedStep(0, 4)", x.loggedStep(0, 4), 1);
        s.is("loggedStep(0, 5)", x.loggedStep(0, 5), -1);
        s.is("errorsOf(0)", x.errorsOf(0), 0);
        s.is("goBack(0, 8) over single steps", x.goBack(0, 8), 4);
        s.action(3, "This is an action.", y -> y.crawl(1, 100));
        s.action(3, "This is an action.", y -> y.crawl(2, 0));
        s.snails(3, (y, snail) -> y.crawl(snail, 1));
        s.noSnails((y, snail) -> y.crawl(snail, 101));
    }

    private void crawlSteps() {
        s.promise(3, "- `steps`: -100 to 100: below 0 backward");
        for (int steps : new int[] {-100, -99, -1, 0, 1, 99, 100}) {
            QuadSnail x = new QuadSnail();
            x.crawl(2, steps);
            s.is("positionOf(2) after crawl(2, " + steps + ")", x.positionOf(2), steps);
            s.is("distanceOf(2) after it", x.distanceOf(2), Math.abs(steps));
            s.is("ticksOf(2) after it", x.ticksOf(2), Math.abs(steps));
            s.is("directionOf(2) after it", x.directionOf(2), Integer.signum(steps));
        }
        int[] noSteps = {-101, 101, Integer.MIN_VALUE, Integer.MAX_VALUE};
        for (int steps : noSteps) {
            s.refused("crawl(2, " + steps + ")", Sentences.ARGUMENT, y -> y.crawl(2, steps));
        }
        s.promise(3, "Returns the position afterwards.");
        QuadSnail x = new QuadSnail();
        s.is("crawl(2, 100)", x.crawl(2, 100), 100);
        s.is("crawl(2, 0)", x.crawl(2, 0), 100);
        s.is("crawl(2, -100)", x.crawl(2, -100), 0);
        s.is("crawl(2, -100) again", x.crawl(2, -100), -100);
        s.promise(3, "Throws `IllegalArgumentException` if steps is out of range");
        s.refused("crawl(0, 101)", Sentences.ARGUMENT, y -> y.crawl(0, 101));
        s.refused("crawl(0, -101)", Sentences.ARGUMENT, y -> y.crawl(0, -101));
    }

    private void meetMark() {
        s.promise(4, "Lets a snail meet the mark.");
        QuadSnail x = new QuadSnail();
        x.crawl(0, 5);
        x.crawl(1, 5);
        x.meetMark(1);
        s.is("positionOf(1)", x.positionOf(1), 0);
        s.is("positionOf(0)", x.positionOf(0), 5);
        s.is("stateOf(1) stays", x.stateOf(1), 1);
        s.is("logLength(1) stays", x.logLength(1), 5);
        s.is("ticksOf(1) stays", x.ticksOf(1), 5);
        s.is("distanceOf(1) stays", x.distanceOf(1), 5);
        s.action(4, "This is an action.", y -> y.meetMark(1));
        s.action(4, "This is an action.", y -> y.meetMark(0));
        s.snails(4, (y, snail) -> y.meetMark(snail));
        s.promise(4, "Returns what it was off by.");
        QuadSnail z = new QuadSnail();
        s.is("meetMark(0) in place", z.meetMark(0), 0);
        z.crawl(0, 1);
        s.is("meetMark(0) one beyond", z.meetMark(0), 1);
        z.crawl(0, -1);
        s.is("meetMark(0) one before", z.meetMark(0), -1);
    }

    private void meetMarkTerms() {
        s.term(4, "When a snail meets the mark, its place should be 0: it is off by its place if twice the place is at "
                + "most the counts of a turn, otherwise by its place less the counts of a turn.");
        // counts, position, off
        int[][] marks = {{4, 0, 0}, {4, 1, 1}, {4, 2, 2}, {4, 3, -1}, {4, 4, 0}, {4, -1, -1}, {4, -2, 2}, {4, -3, 1},
            {24, 11, 11}, {24, 12, 12}, {24, 13, -11}, {24, 23, -1}, {24, 24, 0}, {24, 36, 12}, {24, 37, -11},
            {24, -11, -11}, {24, -12, 12}, {24, -13, 11}, {24, -24, 0}, {24, -25, -1}, {400, 100, 100},
            {400, -100, -100}};
        for (int[] mark : marks) {
            s.is("meetMark(3) at " + mark[1] + " of " + mark[0], at(mark[1], mark[0]).meetMark(3), mark[2]);
        }
        for (int position : new int[] {199, 200, 201}) {
            QuadSnail x = at(100, 400);
            x.crawl(3, 99);
            x.crawl(3, position - 199);
            s.is("meetMark(3) at " + position + " of 400", x.meetMark(3), position > 200 ? -199 : position);
        }
        s.term(4, "The position becomes less by that.");
        for (int[] mark : marks) {
            QuadSnail x = at(mark[1], mark[0]);
            x.meetMark(3);
            s.is("positionOf(3) from " + mark[1] + " of " + mark[0], x.positionOf(3), mark[1] - mark[2]);
        }
        s.term(4, "The slips of a snail are the sizes of all that it was off by, added.");
        QuadSnail x = at(13, 24);
        x.meetMark(3);
        s.is("slipsOf(3) after -11", x.slipsOf(3), 11);
        x.meetMark(3);
        s.is("slipsOf(3) after 0", x.slipsOf(3), 11);
        x.crawl(3, 12);
        x.meetMark(3);
        s.is("slipsOf(3) after 12", x.slipsOf(3), 23);
    }

    private static QuadSnail at(int position, int counts) {
        QuadSnail x = new QuadSnail();
        x.setCounts(counts);
        x.crawl(3, position);
        return x;
    }

    private void goBack() {
        s.promise(5, "Lets a snail go back.");
        QuadSnail x = new QuadSnail();
        x.crawl(0, 3);
        x.crawl(1, 3);
        x.goBack(1, 2);
        s.is("positionOf(1)", x.positionOf(1), 1);
        s.is("stateOf(1)", x.stateOf(1), 1);
        s.is("positionOf(0)", x.positionOf(0), 3);
        s.action(5, "This is an action.", y -> y.goBack(1, 1));
        s.snails(5, (y, snail) -> y.goBack(snail, 1));
        s.noSnails((y, snail) -> y.goBack(snail, 0));
        s.noSnails((y, snail) -> y.goBack(snail, 16));
        s.promise(5, "Returns the position afterwards.");
        QuadSnail z = new QuadSnail();
        z.crawl(2, -9);
        s.is("goBack(2, 1)", z.goBack(2, 1), -8);
        s.is("goBack(2, 8)", z.goBack(2, 8), 0);
    }

    private void goBackFeelings() {
        s.promise(5, "- `feelings`: 1 to 16");
        for (int feelings = 1; feelings <= 16; feelings++) {
            s.is("goBack(0, " + feelings + ") after crawl(0, 16)", crawled(16).goBack(0, feelings), 16 - feelings);
        }
        int[] noFeelings = {0, -1, 17, Integer.MIN_VALUE, Integer.MAX_VALUE};
        for (int feelings : noFeelings) {
            s.refused("goBack(0, " + feelings + ")", Sentences.ARGUMENT, () -> crawled(20),
                    y -> y.goBack(0, feelings));
        }
        s.promise(5, "Throws `IllegalArgumentException` if feelings is out of range");
        s.refused("goBack(0, 17) of an empty log", Sentences.ARGUMENT, QuadSnail::new, y -> y.goBack(0, 17));
        s.refused("goBack(0, 0) of an empty log", Sentences.ARGUMENT, QuadSnail::new, y -> y.goBack(0, 0));
        s.promise(5, "Throws `IllegalStateException` if its log has fewer");
        s.refused("goBack(0, 1) of an empty log", Sentences.STATE, QuadSnail::new, y -> y.goBack(0, 1));
        s.refused("goBack(1, 1) of another snail's log", Sentences.STATE, () -> crawled(9), y -> y.goBack(1, 1));
        for (int felt = 1; felt < 16; felt++) {
            int length = felt;
            s.refused("goBack(0, " + (length + 1) + ") of " + length, Sentences.STATE, () -> crawled(length),
                    y -> y.goBack(0, length + 1));
            s.is("goBack(0, " + length + ") of as many", crawled(length).goBack(0, length), 0);
        }
        s.refused("goBack(0, 1) after goBack(0, 16)", Sentences.STATE, () -> goneBack(100, 16), y -> y.goBack(0, 1));
        s.refused("goBack(0, 16) after goBack(0, 1)", Sentences.STATE, () -> goneBack(100, 1), y -> y.goBack(0, 16));
    }

    private static QuadSnail crawled(int steps) {
        QuadSnail x = new QuadSnail();
        x.crawl(0, steps);
        return x;
    }

    private static QuadSnail goneBack(int steps, int feelings) {
        QuadSnail x = crawled(steps);
        x.goBack(0, feelings);
        return x;
    }

    private void goBackTerms() {
        s.term(5, TO_16);
        s.is("logLength(0) after 15", crawled(15).logLength(0), 15);
        s.is("logLength(0) after 16", crawled(16).logLength(0), 16);
        s.is("logLength(0) after 17", crawled(17).logLength(0), 16);
        QuadSnail x = new QuadSnail();
        x.feel(0, 2, 1000);
        x.crawl(0, 15);
        s.is("loggedStep(0, 0) while the first is one of 16", x.loggedStep(0, 0), -1);
        s.isExactly("speedOf(0) while the first is one of 16", x.speedOf(0), 14000.0 / 1015.0);
        x.crawl(0, 1);
        s.is("loggedStep(0, 0) when a seventeenth came", x.loggedStep(0, 0), 1);
        s.isExactly("speedOf(0) when a seventeenth came", x.speedOf(0), 1000.0);
        s.is("goBack(0, 16) to where the first had led", x.goBack(0, 16), -1);
        s.is("stateOf(0) there", x.stateOf(0), 2);
        s.term(5, "To go back by some feelings means to take the latest ones of the log, from the last one on, and to "
                + "undo their steps: the position becomes less by each step, the state becomes the one before;");
        QuadSnail y = new QuadSnail();
        y.setRule(QuadSnail.FOLLOW);
        int[] states = {1, 1, 2, 0, 2, 1};
        int[] steps = {1, 0, 2, 1, -1, -2};
        for (int number = 0; number < 6; number++) {
            s.is("feel(0, " + states[number] + ", 1)", y.feel(0, states[number], 1), steps[number]);
        }
        int position = y.positionOf(0);
        for (int number = 5; number >= 0; number--) {
            position -= steps[number];
            s.is("goBack(0, 1) over " + steps[number], y.goBack(0, 1), position);
            s.is("the state before", y.stateOf(0), number == 0 ? 0 : states[number - 1]);
        }
        s.term(5, "each takes as many ticks as it took,");
        QuadSnail z = new QuadSnail();
        z.feel(0, 1, 1000);
        z.feel(0, 0, 1);
        z.feel(0, 0, 30);
        z.goBack(0, 2);
        s.is("ticksOf(0) after the way back over 1 and 30", z.ticksOf(0), 1062);
        z.goBack(0, 1);
        s.is("ticksOf(0) after the way back over 1000", z.ticksOf(0), 2062);
        s.term(5, "They are not in the log any more; nothing comes into it.");
        s.is("logLength(0) after all went", z.logLength(0), 0);
        QuadSnail full = goneBack(20, 5);
        s.is("logLength(0) after five of 16", full.logLength(0), 11);
        s.refused("loggedStep(0, 11)", Sentences.INDEX, () -> goneBack(20, 5), q -> q.loggedStep(0, 11));
        full.crawl(0, -5);
        s.is("logLength(0) after five more", full.logLength(0), 16);
        s.is("loggedStep(0, 10), kept", full.loggedStep(0, 10), 1);
        s.is("loggedStep(0, 11), new", full.loggedStep(0, 11), -1);
    }

    private void goBackDirection() {
        s.term(5, "the direction becomes the opposite one of the step's if the step is not 0.");
        QuadSnail x = new QuadSnail();
        x.feel(0, 0, 1);
        x.goBack(0, 1);
        s.is("directionOf(0) of none, after a step of 0", x.directionOf(0), 0);
        x.crawl(0, 2);
        x.goBack(0, 1);
        s.is("directionOf(0) after a step of 1", x.directionOf(0), -1);
        x.feel(0, x.stateOf(0), 1);
        x.goBack(0, 1);
        s.is("directionOf(0) after a step of 0", x.directionOf(0), -1);
        x.crawl(0, -3);
        x.goBack(0, 2);
        s.is("directionOf(0) after a step of -1", x.directionOf(0), 1);
        x.setRule(QuadSnail.FOLLOW);
        x.feel(0, x.stateOf(0) ^ 3, 1);
        x.goBack(0, 1);
        s.is("directionOf(0) after a step of 2", x.directionOf(0), -1);
        x.feel(0, x.stateOf(0) ^ 3, 1);
        x.goBack(0, 1);
        s.is("directionOf(0) after a step of -2", x.directionOf(0), 1);
        x.crawl(1, 1);
        x.crawl(1, -1);
        x.goBack(1, 2);
        s.is("directionOf(1) after -1 and then 1", x.directionOf(1), -1);
    }

    private void setRule() {
        s.promise(6, "Changes the rule for errors.");
        QuadSnail x = new QuadSnail();
        x.crawl(0, 1);
        x.setRule(QuadSnail.FOLLOW);
        s.is("rule()", x.rule(), QuadSnail.FOLLOW);
        s.is("stepTo(0, 2)", x.stepTo(0, 2), 2);
        x.setRule(QuadSnail.IGNORE);
        s.is("rule() again", x.rule(), QuadSnail.IGNORE);
        s.is("stepTo(0, 2) again", x.stepTo(0, 2), 0);
        s.action(6, "This is an action.", y -> y.setRule(QuadSnail.FOLLOW));
        s.action(6, "This is an action.", y -> y.setRule(QuadSnail.IGNORE));
        s.promise(6, "- `rule`: IGNORE or FOLLOW");
        s.is("setRule(FOLLOW)", x.setRule(QuadSnail.FOLLOW), QuadSnail.IGNORE);
        s.is("setRule(IGNORE)", x.setRule(QuadSnail.IGNORE), QuadSnail.FOLLOW);
        noRules();
        s.promise(6, "Returns the previous rule.");
        s.is("setRule(IGNORE) under IGNORE", x.setRule(QuadSnail.IGNORE), QuadSnail.IGNORE);
        s.is("setRule(FOLLOW) under IGNORE", x.setRule(QuadSnail.FOLLOW), QuadSnail.IGNORE);
        s.is("setRule(FOLLOW) under FOLLOW", x.setRule(QuadSnail.FOLLOW), QuadSnail.FOLLOW);
        s.promise(6, "Throws `IllegalArgumentException` if there is no such rule");
        noRules();
    }

    private void noRules() {
        int[] noRules = {QuadSnail.NONE, 2, Integer.MIN_VALUE, Integer.MAX_VALUE};
        for (int rule : noRules) {
            s.refused("setRule(" + rule + ")", Sentences.ARGUMENT, x -> x.setRule(rule));
        }
    }

    private void setCounts() {
        s.promise(7, "Changes the counts of a turn; positions stay.");
        QuadSnail x = new QuadSnail();
        x.crawl(0, 50);
        x.crawl(1, -50);
        x.setCounts(4);
        s.is("counts()", x.counts(), 4);
        s.is("positionOf(0)", x.positionOf(0), 50);
        s.is("positionOf(1)", x.positionOf(1), -50);
        s.is("turnsOf(0)", x.turnsOf(0), 12);
        s.is("placeOf(1)", x.placeOf(1), 2);
        s.action(7, "This is an action.", y -> y.setCounts(400));
        s.action(7, "This is an action.", y -> y.setCounts(24));
        s.promise(7, "- `counts`: a multiple of 4 from 4 to 400");
        for (int counts : new int[] {4, 8, 396, 400}) {
            x.setCounts(counts);
            s.is("counts() after setCounts(" + counts + ")", x.counts(), counts);
        }
        noCounts();
        s.promise(7, "Returns the previous counts.");
        QuadSnail y = new QuadSnail();
        s.is("setCounts(4)", y.setCounts(4), 24);
        s.is("setCounts(400)", y.setCounts(400), 4);
        s.is("setCounts(400) again", y.setCounts(400), 400);
        s.promise(7, "Throws `IllegalArgumentException` if counts is none");
        noCounts();
        s.term(7, "A turn has some counts, a multiple of 4 from 4 to 400 (24 at first).");
        s.is("counts() at first", new QuadSnail().counts(), 24);
        s.is("turnsOf(0) one before the turn", crawled(23).turnsOf(0), 0);
        s.is("turnsOf(0) at the turn", crawled(24).turnsOf(0), 1);
        s.refused("setCounts(0)", Sentences.ARGUMENT, z -> z.setCounts(0));
        s.refused("setCounts(404)", Sentences.ARGUMENT, z -> z.setCounts(404));
    }

    private void noCounts() {
        int[] noCounts = {-4, -1, 0, 1, 2, 3, 5, 6, 7, 22, 398, 399, 401, 402, 404, Integer.MIN_VALUE,
            Integer.MAX_VALUE, Integer.MAX_VALUE - 3};
        for (int counts : noCounts) {
            s.refused("setCounts(" + counts + ")", Sentences.ARGUMENT, x -> x.setCounts(counts));
        }
    }
}
