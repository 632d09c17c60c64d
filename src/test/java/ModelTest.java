import java.util.ArrayList;
import java.util.Arrays;
import java.util.List;
import java.util.function.IntSupplier;
import java.util.regex.Pattern;

/**
 * Long runs of calls, each answer compared with a second telling of the document that shares no way
 * of working with the program: whole histories in lists, texts by patterns, states copied anew.
 */
public final class ModelTest {
    private static final Due DUE = new Due("ModelTest");
    private static final int RUNS = 1500;
    private static final int CALLS = 512;
    private static final int WRONG_INDEX = Integer.MIN_VALUE + 1;
    private static final int WRONG_ARGUMENT = Integer.MIN_VALUE + 2;
    private static final int WRONG_STATE = Integer.MIN_VALUE + 3;

    public static void main(String[] args) {
        for (int run = 0; run < RUNS; run++) {
            new Run(run).go();
        }
        DUE.end();
    }

    /** A feeling that has not been gone back. */
    private record Feeling(int before, int after, int step, int ticks) {
        boolean isError() {
            return before + after == 3;
        }
    }

    private static final class ModelSnail {
        final List<Feeling> feelings = new ArrayList<>();
        final List<Integer> offs = new ArrayList<>();
        int logged = 0;
        int direction = 0;
        int errors = 0;
        int distance = 0;
        int ticks = 0;

        ModelSnail copy() {
            ModelSnail copy = new ModelSnail();
            copy.feelings.addAll(feelings);
            copy.offs.addAll(offs);
            copy.logged = logged;
            copy.direction = direction;
            copy.errors = errors;
            copy.distance = distance;
            copy.ticks = ticks;
            return copy;
        }

        int state() {
            return feelings.isEmpty() ? 0 : feelings.get(feelings.size() - 1).after();
        }

        int position() {
            return feelings.stream().mapToInt(Feeling::step).sum() - offs.stream().mapToInt(off -> off).sum();
        }

        int countOfTrack(int track) {
            return feelings.stream().filter(f -> (f.before() ^ f.after()) == track).mapToInt(Feeling::step).sum();
        }

        int errorSteps() {
            return feelings.stream().filter(Feeling::isError).mapToInt(Feeling::step).sum();
        }

        int step(int next, int rule) {
            if (state() + next == 3) {
                return rule == 0 ? 0 : 2 * direction;
            }
            String ring = "0132013201";
            if (ring.contains("" + state() + next)) {
                return 1;
            }
            return state() == next ? 0 : -1;
        }

        int feel(int next, int spent, int rule) {
            Feeling feeling = new Feeling(state(), next, step(next, rule), spent);
            errors += feeling.isError() ? 1 : 0;
            feelings.add(feeling);
            logged = Math.min(16, logged + 1);
            went(feeling.step(), spent);
            return feeling.step();
        }

        void went(int step, int spent) {
            distance += Math.abs(step);
            ticks += spent;
            direction = step == 0 ? direction : Integer.signum(step);
        }

        boolean goBack(int count) {
            if (count > logged) {
                return false;
            }
            for (int number = 0; number < count; number++) {
                Feeling gone = feelings.remove(feelings.size() - 1);
                logged--;
                went(-gone.step(), gone.ticks());
            }
            return true;
        }

        int turns(int counts) {
            int turns = 0;
            while (turns * counts > position()) {
                turns--;
            }
            while ((turns + 1) * counts <= position()) {
                turns++;
            }
            return turns;
        }

        int place(int counts) {
            return position() - turns(counts) * counts;
        }

        int meetMark(int counts) {
            int place = place(counts);
            int off = place > counts - place ? place - counts : place;
            offs.add(off);
            return off;
        }

        List<Feeling> log() {
            return feelings.subList(feelings.size() - logged, feelings.size());
        }

        double speed() {
            int steps = log().stream().mapToInt(Feeling::step).sum();
            int spent = log().stream().mapToInt(Feeling::ticks).sum();
            return logged == 0 ? 0.0 : (double) (1000 * steps) / (double) spent;
        }
    }

    private static final class ModelState {
        final List<ModelSnail> snails = new ArrayList<>();
        int rule = 0;
        int counts = 24;

        static ModelState first() {
            ModelState state = new ModelState();
            for (int number = 0; number < 4; number++) {
                state.snails.add(new ModelSnail());
            }
            return state;
        }

        ModelState copy() {
            ModelState copy = new ModelState();
            for (ModelSnail snail : snails) {
                copy.snails.add(snail.copy());
            }
            copy.rule = rule;
            copy.counts = counts;
            return copy;
        }

        int sum() {
            return snails.stream().mapToInt(ModelSnail::position).sum();
        }
    }

    private static final class Model {
        private static final String ORDER = "[0-3](:[0-3]+|m|b([1-9]|1[0-6]))";
        private static final Pattern TEXT = Pattern.compile(ORDER + "(;" + ORDER + ")*");
        private static final String[] ENDS = {"", "m", "0m", "0", "1"};

        ModelState state = ModelState.first();
        ModelState snapshot = null;
        final List<ModelState> records = new ArrayList<>();
        String text = "";

        void record() {
            records.add(state.copy());
            if (records.size() > 4) {
                records.remove(0);
            }
        }

        static boolean hasSnail(int snail) {
            return snail >= 0 && snail <= 3;
        }

        int feel(int snail, int next, int ticks) {
            if (!hasSnail(snail)) {
                return WRONG_INDEX;
            }
            if (!hasSnail(next) || ticks < 1 || ticks > 1000) {
                return WRONG_ARGUMENT;
            }
            record();
            return state.snails.get(snail).feel(next, ticks, state.rule);
        }

        int crawl(int snail, int steps) {
            if (!hasSnail(snail)) {
                return WRONG_INDEX;
            }
            if (steps < -100 || steps > 100) {
                return WRONG_ARGUMENT;
            }
            record();
            ModelSnail one = state.snails.get(snail);
            for (int left = Math.abs(steps); left > 0; left--) {
                for (int next = 0; next < 4; next++) {
                    if (one.step(next, 0) == Integer.signum(steps)) {
                        one.feel(next, 1, 0);
                        break;
                    }
                }
            }
            return one.position();
        }

        int meetMark(int snail) {
            if (!hasSnail(snail)) {
                return WRONG_INDEX;
            }
            record();
            return state.snails.get(snail).meetMark(state.counts);
        }

        int goBack(int snail, int feelings) {
            if (!hasSnail(snail)) {
                return WRONG_INDEX;
            }
            if (feelings < 1 || feelings > 16) {
                return WRONG_ARGUMENT;
            }
            if (state.snails.get(snail).logged < feelings) {
                return WRONG_STATE;
            }
            record();
            state.snails.get(snail).goBack(feelings);
            return state.snails.get(snail).position();
        }

        int setRule(int rule) {
            if (rule != 0 && rule != 1) {
                return WRONG_ARGUMENT;
            }
            record();
            int previous = state.rule;
            state.rule = rule;
            return previous;
        }

        int setCounts(int counts) {
            if (counts < 4 || counts > 400 || counts / 4 * 4 != counts) {
                return WRONG_ARGUMENT;
            }
            record();
            int previous = state.counts;
            state.counts = counts;
            return previous;
        }

        int type(char character) {
            if (text.length() == 80) {
                return WRONG_STATE;
            }
            text += character;
            return text.length();
        }

        int clearText() {
            int length = text.length();
            text = "";
            return length;
        }

        int textError() {
            for (int length = 1; length <= text.length(); length++) {
                String begun = text.substring(0, length);
                if (Arrays.stream(ENDS).noneMatch(end -> TEXT.matcher(begun + end).matches())) {
                    return length - 1;
                }
            }
            return TEXT.matcher(text).matches() ? -1 : text.length();
        }

        private static boolean follow(ModelState on, String order) {
            ModelSnail one = on.snails.get(order.charAt(0) - '0');
            String rest = order.substring(2);
            switch (order.charAt(1)) {
                case 'm':
                    one.meetMark(on.counts);
                    return true;
                case 'b':
                    return one.goBack(Integer.parseInt(rest));
                default:
                    rest.chars().forEach(digit -> one.feel(digit - '0', 1, on.rule));
                    return true;
            }
        }

        int impossibleOrder() {
            if (textError() != -1) {
                return WRONG_STATE;
            }
            ModelState tried = state.copy();
            String[] orders = text.split(";");
            for (int number = 0; number < orders.length; number++) {
                if (!follow(tried, orders[number])) {
                    return number;
                }
            }
            return -1;
        }

        int carryOut() {
            if (impossibleOrder() != -1) {
                return WRONG_STATE;
            }
            record();
            for (String order : text.split(";")) {
                follow(state, order);
            }
            return text.split(";").length;
        }

        int undo() {
            if (records.isEmpty()) {
                return WRONG_STATE;
            }
            state = records.remove(records.size() - 1);
            return records.size();
        }

        int takeSnapshot() {
            snapshot = state.copy();
            return state.sum();
        }

        int restoreSnapshot() {
            if (snapshot == null) {
                return WRONG_STATE;
            }
            record();
            state = snapshot.copy();
            return state.sum();
        }

        int leader() {
            int best = state.snails.stream().mapToInt(ModelSnail::position).max().getAsInt();
            for (int number = 0; number < 4; number++) {
                if (state.snails.get(number).position() == best) {
                    return number;
                }
            }
            return -1;
        }
    }

    /** One run on a new object; it makes at most 512 calls. */
    private static final class Run {
        private final int run;
        private final QuadSnail x = new QuadSnail();
        private final Model model = new Model();
        private long seed;
        private int calls = 0;

        Run(int run) {
            this.run = run;
            seed = run * 7919L + 1;
        }

        /** Numbers that look thrown, the same in each run of the test. */
        private int pick(int bound) {
            seed = seed * 6364136223846793005L + 1442695040888963407L;
            return (int) ((seed >>> 33) % bound);
        }

        private int pickWrongAtTimes(int right, int... wrong) {
            return pick(25) == 0 ? wrong[pick(wrong.length)] : right;
        }

        private int snail() {
            return pickWrongAtTimes(run % 3 == 0 ? pick(4) : pick(2), -1, 4, 1000, Integer.MIN_VALUE);
        }

        void go() {
            while (calls < CALLS - 90) {
                act();
                look();
            }
            for (int snail = 0; snail < 4; snail++) {
                for (int kind = 0; kind < 15; kind++) {
                    lookAtSnail(snail, kind);
                }
            }
            while (!model.records.isEmpty()) {
                check("undo", model.undo(), x::undo);
                lookAtSnail(0, 1);
                lookAtSnail(1, 1);
                lookAtSnail(2, 1);
                lookAtSnail(3, 1);
            }
        }

        private void act() {
            switch (pick(13)) {
                case 0, 1, 2 -> {
                    int snail = snail();
                    int state = pickWrongAtTimes(pick(4), -1, 4);
                    int ticks = pickWrongAtTimes(1 + pick(pick(2) == 0 ? 5 : 1000), 0, 1001, -5, 1000);
                    check("feel(" + snail + ", " + state + ", " + ticks + ")", model.feel(snail, state, ticks),
                            () -> x.feel(snail, state, ticks));
                }
                case 3 -> {
                    int snail = snail();
                    int steps = pickWrongAtTimes(pick(2) == 0 ? pick(201) - 100 : pick(9) - 4, 101, -101, 100, -100);
                    check("crawl(" + snail + ", " + steps + ")", model.crawl(snail, steps),
                            () -> x.crawl(snail, steps));
                }
                case 4 -> {
                    int snail = snail();
                    check("meetMark(" + snail + ")", model.meetMark(snail), () -> x.meetMark(snail));
                }
                case 5 -> {
                    int snail = snail();
                    int feelings = pickWrongAtTimes(1 + pick(pick(3) == 0 ? 16 : 4), 0, 17, -1, 16);
                    check("goBack(" + snail + ", " + feelings + ")", model.goBack(snail, feelings),
                            () -> x.goBack(snail, feelings));
                }
                case 6 -> {
                    int rule = pickWrongAtTimes(pick(2), -1, 2);
                    check("setRule(" + rule + ")", model.setRule(rule), () -> x.setRule(rule));
                }
                case 7 -> {
                    int counts = pickWrongAtTimes(4 + 4 * pick(pick(2) == 0 ? 100 : 6), 0, 404, 6, -4, 400);
                    check("setCounts(" + counts + ")", model.setCounts(counts), () -> x.setCounts(counts));
                }
                case 8 -> undoOrSnapshot();
                default -> typeAndCarryOut();
            }
        }

        private void undoOrSnapshot() {
            switch (pick(4)) {
                case 0 -> check("takeSnapshot", model.takeSnapshot(), x::takeSnapshot);
                case 1 -> check("restoreSnapshot", model.restoreSnapshot(), x::restoreSnapshot);
                default -> check("undo", model.undo(), x::undo);
            }
        }

        private void typeAndCarryOut() {
            int kind = pick(8);
            if (kind == 0) {
                check("clearText", model.clearText(), x::clearText);
            } else if (kind == 1) {
                check("impossibleOrder", model.impossibleOrder(), x::impossibleOrder);
                check("carryOut", model.carryOut(), x::carryOut);
            } else if (kind == 2) {
                check("textError", model.textError(), x::textError);
            } else {
                StringBuilder part = new StringBuilder(model.text.isEmpty() ? "" : ";");
                part.append(pick(4)).append(part());
                if (pick(20) == 0) {
                    part.setCharAt(pick(part.length()), "0123456789:;mb Mx\u0131\u0660".charAt(pick(19)));
                }
                if (calls + part.length() < CALLS - 95) {
                    part.chars().forEach(sign -> check("type " + sign, model.type((char) sign), () -> x.type((char) sign)));
                }
            }
        }

        private String part() {
            switch (pick(3)) {
                case 0:
                    return "m";
                case 1:
                    return "b" + (1 + pick(pick(4) == 0 ? 18 : 3));
                default:
                    StringBuilder states = new StringBuilder(":");
                    for (int left = pick(run % 2 == 0 ? 30 : 5); left >= 0; left--) {
                        states.append(pick(4));
                    }
                    return states.toString();
            }
        }

        private void look() {
            if (pick(3) == 0) {
                check("recordedStates", model.records.size(), x::recordedStates);
                check("counts", model.state.counts, x::counts);
                check("rule", model.state.rule, x::rule);
                check("leader", model.leader(), x::leader);
            }
            lookAtSnail(pick(4), pick(15));
        }

        private void lookAtSnail(int snail, int kind) {
            ModelSnail due = model.state.snails.get(snail);
            int counts = model.state.counts;
            switch (kind) {
                case 0 -> check("stateOf " + snail, due.state(), () -> x.stateOf(snail));
                case 1 -> check("positionOf " + snail, due.position(), () -> x.positionOf(snail));
                case 2 -> check("positionByTracks " + snail, due.countOfTrack(2) + due.countOfTrack(1)
                        + due.errorSteps() - due.offs.stream().mapToInt(off -> off).sum(),
                        () -> x.positionByTracks(snail));
                case 3 -> check("turnsOf " + snail, due.turns(counts), () -> x.turnsOf(snail));
                case 4 -> check("placeOf " + snail, due.place(counts), () -> x.placeOf(snail));
                case 5 -> check("directionOf " + snail, due.direction, () -> x.directionOf(snail));
                case 6 -> check("countOfA " + snail, due.countOfTrack(2), () -> x.countOfA(snail));
                case 7 -> {
                    int state = pick(4);
                    check("stepTo " + snail + ", " + state, due.step(state, model.state.rule),
                            () -> x.stepTo(snail, state));
                }
                case 8 -> check("logLength " + snail, due.logged, () -> x.logLength(snail));
                case 9 -> {
                    int entry = pick(18) - 1;
                    int step = entry >= 0 && entry < due.logged ? due.log().get(entry).step() : WRONG_INDEX;
                    check("loggedStep " + snail + ", " + entry, step, () -> x.loggedStep(snail, entry));
                }
                case 10 -> {
                    calls++;
                    DUE.isExactly(name("speedOf " + snail), x.speedOf(snail), due.speed());
                }
                case 11 -> check("errorsOf " + snail, due.errors, () -> x.errorsOf(snail));
                case 12 -> check("slipsOf " + snail, due.offs.stream().mapToInt(Math::abs).sum(),
                        () -> x.slipsOf(snail));
                case 13 -> check("distanceOf " + snail, due.distance, () -> x.distanceOf(snail));
                default -> check("ticksOf " + snail, due.ticks, () -> x.ticksOf(snail));
            }
        }

        private String name(String call) {
            return "run " + run + ", call " + calls + ": " + call;
        }

        private void check(String call, int due, IntSupplier asked) {
            calls++;
            if (calls > CALLS) {
                throw new IllegalStateException("more calls than the document allows");
            }
            int got;
            try {
                got = asked.getAsInt();
            } catch (RuntimeException thrown) {
                got = codeOf(thrown.getClass());
            }
            DUE.is(name(call), got, due);
        }

        private static int codeOf(Class<?> thrown) {
            if (thrown == IndexOutOfBoundsException.class) {
                return WRONG_INDEX;
            }
            if (thrown == IllegalArgumentException.class) {
                return WRONG_ARGUMENT;
            }
            return thrown == IllegalStateException.class ? WRONG_STATE : Integer.MIN_VALUE;
        }
    }
}
