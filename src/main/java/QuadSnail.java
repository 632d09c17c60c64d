/**
 * Snails with two tracks that tell their direction: changes of the tracks, counts, errors when both
 * change at once, a mark once in each turn, speeds, and ways back; there and back is zero.
 */
public final class QuadSnail {
    public static final int NONE = -1;
    public static final int IGNORE = 0;
    public static final int FOLLOW = 1;

    private static final int SNAILS = 4;
    private static final int STATES = 4;
    private static final int MOST_TICKS = 1000;
    private static final int MOST_STEPS = 100;
    private static final int LOG_LIMIT = 16;
    private static final int LEAST_COUNTS = 4;
    private static final int MOST_COUNTS = 400;
    private static final int FIRST_COUNTS = 24;
    private static final int TEXT_LIMIT = 80;
    private static final int RECORD_LIMIT = 4;
    private static final int ACCOUNT_LIMIT = 1000000000;

    // All room is made once, here: no call makes an object, however many calls a run has.
    private final Garden now = new Garden();
    private final Garden trial = new Garden();
    private final Garden snapshot = new Garden();
    private final Records records = new Records();
    private final OrderText text = new OrderText();
    private boolean hasSnapshot;

    public QuadSnail() {
    }

    // ---- actions

    public int feel(int snail, int state, int ticks)
            throws IndexOutOfBoundsException, IllegalArgumentException, IllegalStateException {
        Snail one = snailNumbered(snail);
        demandState(state);
        if (ticks < 1 || ticks > MOST_TICKS) {
            throw new IllegalArgumentException("ticks out of range");
        }
        int step = one.stepUnder(now.rule, state);
        demandRoom(one, ticks, Math.abs(step));
        records.keep(now);
        one.sense(state, step, ticks);
        return step;
    }

    public int crawl(int snail, int steps)
            throws IndexOutOfBoundsException, IllegalArgumentException, IllegalStateException {
        Snail one = snailNumbered(snail);
        if (steps < -MOST_STEPS || steps > MOST_STEPS) {
            throw new IllegalArgumentException("steps out of range");
        }
        int size = Math.abs(steps);
        demandRoom(one, size, size);
        records.keep(now);
        int way = steps < 0 ? -1 : 1;
        for (int made = 0; made < size; made++) {
            one.sense(one.neighbour(way), way, 1);
        }
        return one.position;
    }

    public int meetMark(int snail) throws IndexOutOfBoundsException {
        Snail one = snailNumbered(snail);
        records.keep(now);
        return one.passMark(now.counts);
    }

    public int goBack(int snail, int feelings)
            throws IndexOutOfBoundsException, IllegalArgumentException, IllegalStateException {
        Snail one = snailNumbered(snail);
        if (feelings < 1 || feelings > LOG_LIMIT) {
            throw new IllegalArgumentException("feelings out of range");
        }
        if (!one.canRetrace(feelings)) {
            throw new IllegalStateException("the way back is not in the log, or too long");
        }
        records.keep(now);
        one.retrace(feelings);
        return one.position;
    }

    public int setRule(int rule) throws IllegalArgumentException {
        if (rule != IGNORE && rule != FOLLOW) {
            throw new IllegalArgumentException("no such rule");
        }
        records.keep(now);
        int previous = now.rule;
        now.rule = rule;
        return previous;
    }

    public int setCounts(int counts) throws IllegalArgumentException {
        if (counts < LEAST_COUNTS || counts > MOST_COUNTS || counts % 4 != 0) {
            throw new IllegalArgumentException("no such counts");
        }
        records.keep(now);
        int previous = now.counts;
        now.counts = counts;
        return previous;
    }

    // ---- order texts

    public int type(char character) throws IllegalStateException {
        if (text.length >= TEXT_LIMIT) {
            throw new IllegalStateException("the text is full");
        }
        text.append(character);
        return text.length;
    }

    public int clearText() {
        int had = text.length;
        text.length = 0;
        return had;
    }

    public int textError() {
        return text.firstError();
    }

    public int impossibleOrder() throws IllegalStateException {
        demandValidText();
        trial.copyFrom(now);
        return firstFailing(trial);
    }

    public int carryOut() throws IllegalStateException {
        demandValidText();
        // The orders run on a copy, so that a failing one leaves no trace of those before it.
        trial.copyFrom(now);
        if (firstFailing(trial) != NONE) {
            throw new IllegalStateException("an order cannot be carried out");
        }
        records.keep(now);
        now.copyFrom(trial);
        return text.orders();
    }

    // ---- undo, snapshot

    public int undo() throws IllegalStateException {
        if (records.length < 1) {
            throw new IllegalStateException("no state is recorded");
        }
        records.giveBackLatest(now);
        return records.length;
    }

    public int takeSnapshot() {
        snapshot.copyFrom(now);
        hasSnapshot = true;
        return now.sumOfPositions();
    }

    public int restoreSnapshot() throws IllegalStateException {
        if (!hasSnapshot) {
            throw new IllegalStateException("there is no snapshot");
        }
        records.keep(now);
        now.copyFrom(snapshot);
        return now.sumOfPositions();
    }

    // ---- positions

    public int stateOf(int snail) throws IndexOutOfBoundsException {
        return snailNumbered(snail).state;
    }

    public int positionOf(int snail) throws IndexOutOfBoundsException {
        return snailNumbered(snail).position;
    }

    public int positionByTracks(int snail) throws IndexOutOfBoundsException {
        Snail one = snailNumbered(snail);
        return one.countA + one.countB + one.errorSteps - one.offAtMarks;
    }

    public int turnsOf(int snail) throws IndexOutOfBoundsException {
        return snailNumbered(snail).turnsOver(now.counts);
    }

    public int placeOf(int snail) throws IndexOutOfBoundsException {
        return snailNumbered(snail).placeIn(now.counts);
    }

    public int directionOf(int snail) throws IndexOutOfBoundsException {
        return snailNumbered(snail).direction;
    }

    public int countOfA(int snail) throws IndexOutOfBoundsException {
        return snailNumbered(snail).countA;
    }

    public int leader() {
        int best = 0;
        for (int number = 1; number < SNAILS; number++) {
            if (now.snail(number).position > now.snail(best).position) {
                best = number;
            }
        }
        return best;
    }

    public int stepTo(int snail, int state) throws IndexOutOfBoundsException, IllegalArgumentException {
        Snail one = snailNumbered(snail);
        demandState(state);
        return one.stepUnder(now.rule, state);
    }

    // ---- logs, accounts

    public int logLength(int snail) throws IndexOutOfBoundsException {
        return snailNumbered(snail).log.length;
    }

    public int loggedStep(int snail, int entry) throws IndexOutOfBoundsException {
        Snail one = snailNumbered(snail);
        if (entry < 0 || entry >= one.log.length) {
            throw new IndexOutOfBoundsException("no such log entry");
        }
        return one.log.step(entry);
    }

    public double speedOf(int snail) throws IndexOutOfBoundsException {
        return snailNumbered(snail).log.speed();
    }

    public int errorsOf(int snail) throws IndexOutOfBoundsException {
        return snailNumbered(snail).errors;
    }

    public int slipsOf(int snail) throws IndexOutOfBoundsException {
        return snailNumbered(snail).slips;
    }

    public int distanceOf(int snail) throws IndexOutOfBoundsException {
        return snailNumbered(snail).distance;
    }

    public int ticksOf(int snail) throws IndexOutOfBoundsException {
        return snailNumbered(snail).ticks;
    }

    public int counts() {
        return now.counts;
    }

    public int rule() {
        return now.rule;
    }

    public int recordedStates() {
        return records.length;
    }

    // ---- what the calls above share

    private Snail snailNumbered(int number) {
        if (number < 0 || number >= SNAILS) {
            throw new IndexOutOfBoundsException("no such snail");
        }
        return now.snail(number);
    }

    private static void demandState(int state) {
        if (state < 0 || state >= STATES) {
            throw new IllegalArgumentException("state out of range");
        }
    }

    private static void demandRoom(Snail one, int moreTicks, int moreDistance) {
        if (!one.hasRoom(moreTicks, moreDistance)) {
            throw new IllegalStateException("ticks or distance too great");
        }
    }

    private void demandValidText() {
        if (text.firstError() != NONE) {
            throw new IllegalStateException("the text is not valid");
        }
    }

    /** Carries out the orders of a valid text up to the first that fails; its number, or NONE. */
    private int firstFailing(Garden garden) {
        int orders = text.orders();
        int start = 0;
        for (int order = 0; order < orders; order++) {
            if (!follow(garden, start)) {
                return order;
            }
            start = text.endOfOrder(start) + 1;
        }
        return NONE;
    }

    /** Carries out the order that begins at this index; false if it cannot be. */
    private boolean follow(Garden garden, int start) {
        Snail one = garden.snail(text.digit(start));
        char kind = text.sign(start + 1);
        if (kind == 'm') {
            one.passMark(garden.counts);
            return true;
        }
        if (kind != 'b') {
            return feelAll(one, garden.rule, start + 2, text.endOfOrder(start));
        }
        int feelings = text.number(start + 2);
        if (!one.canRetrace(feelings)) {
            return false;
        }
        one.retrace(feelings);
        return true;
    }

    private boolean feelAll(Snail one, int rule, int from, int end) {
        for (int index = from; index < end; index++) {
            int state = text.digit(index);
            int step = one.stepUnder(rule, state);
            if (!one.hasRoom(1, Math.abs(step))) {
                return false;
            }
            one.sense(state, step, 1);
        }
        return true;
    }

    /** Everything that undo and the snapshot bring back. */
    private static final class Garden {
        // Fields and no array: no number can miss them, and none of them can be null.
        private final Snail first = new Snail();
        private final Snail second = new Snail();
        private final Snail third = new Snail();
        private final Snail fourth = new Snail();
        private int rule = IGNORE;
        private int counts = FIRST_COUNTS;

        Snail snail(int number) {
            switch (number) {
                case 0:
                    return first;
                case 1:
                    return second;
                case 2:
                    return third;
                default:
                    return fourth;
            }
        }

        int sumOfPositions() {
            return first.position + second.position + third.position + fourth.position;
        }

        void copyFrom(Garden other) {
            first.copyFrom(other.first);
            second.copyFrom(other.second);
            third.copyFrom(other.third);
            fourth.copyFrom(other.fourth);
            rule = other.rule;
            counts = other.counts;
        }
    }

    /** One snail, with its accounts and its log. */
    private static final class Snail {
        private static final int TRACK_A = 2;
        private static final int TRACK_B = 1;
        private static final int BOTH_TRACKS = 3;

        private final Log log = new Log();
        private int state;
        private int position;
        private int direction;
        private int countA;
        private int countB;
        private int errorSteps;
        private int offAtMarks;
        private int errors;
        private int slips;
        private int distance;
        private int ticks;

        /** Turns a state into its place in the ring 0, 1, 3, 2, and such a place into its state. */
        private static int ring(int stateOrPlace) {
            return stateOrPlace ^ (stateOrPlace >> 1);
        }

        int neighbour(int way) {
            return ring((ring(state) + way) & 3);
        }

        int stepUnder(int rule, int next) {
            if ((state ^ next) == BOTH_TRACKS) {
                return rule == FOLLOW ? 2 * direction : 0;
            }
            if (next == state) {
                return 0;
            }
            return next == neighbour(1) ? 1 : -1;
        }

        // Both sums stay below 2 * ACCOUNT_LIMIT, which an int can hold.
        boolean hasRoom(int moreTicks, int moreDistance) {
            return ticks + moreTicks <= ACCOUNT_LIMIT && distance + moreDistance <= ACCOUNT_LIMIT;
        }

        void sense(int next, int step, int spent) {
            if ((state ^ next) == BOTH_TRACKS) {
                errors++;
            }
            log.add(step, spent, state);
            move(next, step, spent);
        }

        boolean canRetrace(int feelings) {
            if (log.length < feelings) {
                return false;
            }
            int moreTicks = 0;
            int moreDistance = 0;
            for (int entry = log.length - feelings; entry < log.length; entry++) {
                moreTicks += log.spent(entry);
                moreDistance += Math.abs(log.step(entry));
            }
            return hasRoom(moreTicks, moreDistance);
        }

        void retrace(int feelings) {
            for (int undone = 0; undone < feelings; undone++) {
                int latest = log.length - 1;
                move(log.before(latest), -log.step(latest), log.spent(latest));
                log.dropLatest();
            }
        }

        /** A way back is the same as a way there, with the step the other way round. */
        private void move(int next, int step, int spent) {
            book(state ^ next, step);
            state = next;
            position += step;
            distance += Math.abs(step);
            ticks += spent;
            if (step != 0) {
                direction = step > 0 ? 1 : -1;
            }
        }

        private void book(int changedTracks, int step) {
            switch (changedTracks) {
                case TRACK_A:
                    countA += step;
                    break;
                case TRACK_B:
                    countB += step;
                    break;
                case BOTH_TRACKS:
                    errorSteps += step;
                    break;
                default:
                    break;
            }
        }

        // The counts of a turn are never below 4; asking here keeps each division safe by itself.
        int turnsOver(int counts) {
            return counts < 1 ? 0 : Math.floorDiv(position, counts);
        }

        int placeIn(int counts) {
            return counts < 1 ? 0 : Math.floorMod(position, counts);
        }

        int passMark(int counts) {
            int place = placeIn(counts);
            int off = 2 * place <= counts ? place : place - counts;
            position -= off;
            offAtMarks += off;
            slips += Math.abs(off);
            return off;
        }

        void copyFrom(Snail other) {
            log.copyFrom(other.log);
            state = other.state;
            position = other.position;
            direction = other.direction;
            countA = other.countA;
            countB = other.countB;
            errorSteps = other.errorSteps;
            offAtMarks = other.offAtMarks;
            errors = other.errors;
            slips = other.slips;
            distance = other.distance;
            ticks = other.ticks;
        }
    }

    /** The latest feelings of a snail; entry 0 is the oldest one. */
    private static final class Log {
        private static final int COLUMNS = 3;
        private static final int STEP = 0;
        private static final int SPENT = 1;
        private static final int BEFORE = 2;

        private final int[] cells = new int[LOG_LIMIT * COLUMNS];
        private int oldest;
        private int length;

        void add(int step, int spent, int before) {
            if (length < LOG_LIMIT) {
                length++;
            } else {
                oldest = (oldest + 1) % LOG_LIMIT;
            }
            int row = rowOf(length - 1);
            write(row + STEP, step);
            write(row + SPENT, spent);
            write(row + BEFORE, before);
        }

        void dropLatest() {
            if (length > 0) {
                length--;
            }
        }

        int step(int entry) {
            return read(entry, STEP);
        }

        int spent(int entry) {
            return read(entry, SPENT);
        }

        int before(int entry) {
            return read(entry, BEFORE);
        }

        double speed() {
            int steps = 0;
            int ticks = 0;
            for (int entry = 0; entry < length; entry++) {
                steps += step(entry);
                ticks += spent(entry);
            }
            return ticks < 1 ? 0.0 : 1000.0 * steps / ticks;
        }

        void copyFrom(Log other) {
            for (int index = 0; index < cells.length && index < other.cells.length; index++) {
                cells[index] = other.cells[index];
            }
            oldest = other.oldest;
            length = other.length;
        }

        private int read(int entry, int column) {
            int index = rowOf(entry) + column;
            return index < 0 || index >= cells.length ? 0 : cells[index];
        }

        private void write(int index, int value) {
            if (index >= 0 && index < cells.length) {
                cells[index] = value;
            }
        }

        /** The rows are used in a ring, so that no feeling has to move when the oldest one goes. */
        private int rowOf(int entry) {
            return (oldest + entry) % LOG_LIMIT * COLUMNS;
        }
    }

    /** The latest recorded states. */
    private static final class Records {
        private final Garden first = new Garden();
        private final Garden second = new Garden();
        private final Garden third = new Garden();
        private final Garden fourth = new Garden();
        private int oldest;
        private int length;

        void keep(Garden garden) {
            if (length < RECORD_LIMIT) {
                length++;
            } else {
                oldest = (oldest + 1) % RECORD_LIMIT;
            }
            latest().copyFrom(garden);
        }

        void giveBackLatest(Garden garden) {
            if (length > 0) {
                garden.copyFrom(latest());
                length--;
            }
        }

        private Garden latest() {
            switch ((oldest + length - 1) % RECORD_LIMIT) {
                case 0:
                    return first;
                case 1:
                    return second;
                case 2:
                    return third;
                default:
                    return fourth;
            }
        }
    }

    /** The order text, with what a valid one looks like. */
    private static final class OrderText {
        // The places in a text, told by what stands right before them.
        private static final int NOWHERE = -1;
        private static final int ORDER_BEGINS = 0;
        private static final int AFTER_SNAIL = 1;
        private static final int AFTER_COLON = 2;
        private static final int AFTER_STATE = 3;
        private static final int AFTER_B = 4;
        private static final int AFTER_B_ONE = 5;
        private static final int ORDER_COMPLETE = 6;

        // An array and no text of the library, because any character may be typed.
        private final char[] signs = new char[TEXT_LIMIT];
        private int length;

        void append(char sign) {
            if (length >= 0 && length < signs.length) {
                signs[length] = sign;
                length++;
            }
        }

        /** Beyond the text stands a sign that no order has. */
        char sign(int index) {
            return index < 0 || index >= length || index >= signs.length ? 0 : signs[index];
        }

        int digit(int index) {
            return sign(index) - '0';
        }

        int number(int index) {
            int first = digit(index);
            char next = sign(index + 1);
            return isBetween('0', next, '9') ? 10 * first + (next - '0') : first;
        }

        /** The number of orders of a valid text. */
        int orders() {
            int found = 1;
            for (int index = 0; index < length; index++) {
                if (sign(index) == ';') {
                    found++;
                }
            }
            return found;
        }

        int endOfOrder(int start) {
            for (int index = start; index < length; index++) {
                if (sign(index) == ';') {
                    return index;
                }
            }
            return length;
        }

        int firstError() {
            int place = ORDER_BEGINS;
            for (int index = 0; index < length; index++) {
                place = placeAfter(place, sign(index));
                if (place == NOWHERE) {
                    return index;
                }
            }
            return mayEnd(place) ? NONE : length;
        }

        private static boolean mayEnd(int place) {
            return place == AFTER_STATE || place == AFTER_B_ONE || place == ORDER_COMPLETE;
        }

        private static int placeAfter(int place, char sign) {
            if (sign == ';') {
                return mayEnd(place) ? ORDER_BEGINS : NOWHERE;
            }
            switch (place) {
                case ORDER_BEGINS:
                    return isBetween('0', sign, '3') ? AFTER_SNAIL : NOWHERE;
                case AFTER_SNAIL:
                    return placeAfterSnail(sign);
                case AFTER_COLON:
                case AFTER_STATE:
                    return isBetween('0', sign, '3') ? AFTER_STATE : NOWHERE;
                case AFTER_B:
                    if (sign == '1') {
                        return AFTER_B_ONE;
                    }
                    return isBetween('2', sign, '9') ? ORDER_COMPLETE : NOWHERE;
                case AFTER_B_ONE:
                    return isBetween('0', sign, '6') ? ORDER_COMPLETE : NOWHERE;
                default:
                    return NOWHERE;
            }
        }

        private static int placeAfterSnail(char sign) {
            if (sign == ':') {
                return AFTER_COLON;
            }
            if (sign == 'b') {
                return AFTER_B;
            }
            return sign == 'm' ? ORDER_COMPLETE : NOWHERE;
        }

        private static boolean isBetween(char least, char sign, char most) {
            return sign >= least && sign <= most;
        }
    }
}
