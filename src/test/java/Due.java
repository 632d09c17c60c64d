import java.util.ArrayList;
import java.util.List;

/** What the tests share: comparing answers with those that are due, and reading a whole object. */
final class Due {
    private final String test;
    private int asked = 0;
    private int wrong = 0;

    Due(String test) {
        this.test = test;
    }

    void is(String what, long got, long want) {
        asked++;
        if (got != want) {
            tell(what + " answered " + got + ", due is " + want);
        }
    }

    void isExactly(String what, double got, double want) {
        asked++;
        if (Double.compare(got, want) != 0) {
            tell(what + " answered " + got + ", due is " + want);
        }
    }

    void isSame(String what, Object got, Object want) {
        asked++;
        if (!got.equals(want)) {
            tell(what + " answered\n  " + got + ", due is\n  " + want);
        }
    }

    /** The call throws just this class of exception and changes nothing that can be read. */
    void refuses(QuadSnail x, String what, Class<? extends RuntimeException> kind, Runnable call) {
        asked++;
        List<Object> before = read(x);
        Class<?> thrown = null;
        try {
            call.run();
        } catch (RuntimeException e) {
            thrown = e.getClass();
        }
        if (thrown != kind) {
            tell(what + " threw " + thrown + ", due is " + kind);
        }
        isSame(what + ": what stands after it", read(x), before);
    }

    void noSnail(QuadSnail x, String what, Runnable call) {
        refuses(x, what, IndexOutOfBoundsException.class, call);
    }

    void badArgument(QuadSnail x, String what, Runnable call) {
        refuses(x, what, IllegalArgumentException.class, call);
    }

    void badState(QuadSnail x, String what, Runnable call) {
        refuses(x, what, IllegalStateException.class, call);
    }

    /** Everything that can be read without a change. */
    static List<Object> read(QuadSnail x) {
        List<Object> all = readState(x);
        all.add(x.recordedStates());
        all.add(x.textError());
        return all;
    }

    /** What undo and the snapshot bring back. */
    static List<Object> readState(QuadSnail x) {
        List<Object> all = new ArrayList<>();
        all.add(x.counts());
        all.add(x.rule());
        all.add(x.leader());
        for (int snail = 0; snail < 4; snail++) {
            all.add(readSnail(x, snail));
        }
        return all;
    }

    static List<Object> readSnail(QuadSnail x, int snail) {
        List<Object> all = new ArrayList<>();
        all.add(x.stateOf(snail));
        all.add(x.positionOf(snail));
        all.add(x.positionByTracks(snail));
        all.add(x.turnsOf(snail));
        all.add(x.placeOf(snail));
        all.add(x.directionOf(snail));
        all.add(x.countOfA(snail));
        all.add(x.speedOf(snail));
        all.add(x.errorsOf(snail));
        all.add(x.slipsOf(snail));
        all.add(x.distanceOf(snail));
        all.add(x.ticksOf(snail));
        List<Integer> steps = new ArrayList<>();
        for (int state = 0; state < 4; state++) {
            steps.add(x.stepTo(snail, state));
        }
        all.add(steps);
        List<Integer> log = new ArrayList<>();
        for (int entry = 0; entry < x.logLength(snail); entry++) {
            log.add(x.loggedStep(snail, entry));
        }
        all.add(log);
        return all;
    }

    static void write(QuadSnail x, String text) {
        x.clearText();
        for (int index = 0; index < text.length(); index++) {
            x.type(text.charAt(index));
        }
    }

    private void tell(String what) {
        wrong++;
        if (wrong <= 20) {
            System.out.println(test + ": " + what);
        }
    }

    void end() {
        System.out.println(test + ": " + asked + " answers, " + wrong + " not as due");
        if (wrong != 0) {
            System.exit(1);
        }
    }
}
