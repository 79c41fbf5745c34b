import java.util.NoSuchElementException;
import java.util.function.Supplier;

/** Counts wrong answers; what a test's main asks at its end. */
final class Check {
    static final Class<? extends RuntimeException> INDEX = IndexOutOfBoundsException.class;
    static final Class<? extends RuntimeException> ARGUMENT = IllegalArgumentException.class;
    static final Class<? extends RuntimeException> STATE = IllegalStateException.class;
    static final Class<? extends RuntimeException> UNSUPPORTED = UnsupportedOperationException.class;
    static final Class<? extends RuntimeException> NO_ELEMENT = NoSuchElementException.class;

    /** Numbers that no bound of the document lets through. */
    static final int[] FAR_OFF = {Integer.MIN_VALUE, -1_000_000, -1, 1_000_000, Integer.MAX_VALUE};

    private int checks;
    private int wrong;

    interface Call {
        void run();
    }

    interface CallWithNumber {
        void run(Pickwave planner, int number);
    }

    void is(String what, long got, long due) {
        isTrue(what + " answered " + got + ", due is " + due, got == due);
    }

    void isSign(String what, char got, char due) {
        isTrue(what + " answered " + got + ", due is " + due, got == due);
    }

    void isShare(String what, float got, float due) {
        isTrue(what + " answered " + got + ", due is " + due, got == due);
    }

    void isText(String what, String got, String due) {
        isTrue(what + " is\n" + got + "\ndue is\n" + due, got.equals(due));
    }

    void isTrue(String what, boolean holds) {
        checks++;
        if (!holds) {
            wrong++;
            System.out.println(what);
        }
    }

    /** The call throws just this exception and leaves the planner as it is. */
    void isThrown(String what, Class<? extends RuntimeException> due, Pickwave planner, Call call) {
        String before = Look.at(planner);
        isThrownUnseen(what, due, call);
        isText(what + ": what is left behind", Look.at(planner), before);
    }

    /** The call throws just this exception; no look spends the calls that a planner has left of its 512. */
    void isThrownUnseen(String what, Class<? extends RuntimeException> due, Call call) {
        RuntimeException got = thrownBy(call);
        isTrue(what + " threw " + got + ", due is " + due, got != null && got.getClass() == due);
        isTrue(what + ": the library threw " + got, got == null || isThrownByThePlanner(got));
    }

    void isTaken(String what, Call call) {
        RuntimeException got = thrownBy(call);
        isTrue(what + " threw " + got + ", due is an answer", got == null);
    }

    private static RuntimeException thrownBy(Call call) {
        try {
            call.run();
            return null;
        } catch (RuntimeException e) {
            return e;
        }
    }

    /** The call takes each number from least to most and none beside them, each on a new planner. */
    void isBetween(String what, Class<? extends RuntimeException> due, int least, int most,
            Supplier<Pickwave> maker, CallWithNumber call) {
        for (int number = least; number <= most; number++) {
            int taken = number;
            Pickwave planner = maker.get();
            isTaken(what + " " + taken, () -> call.run(planner, taken));
        }
        for (int wrong : new int[] {least - 1, most + 1, Integer.MIN_VALUE, Integer.MAX_VALUE}) {
            Pickwave planner = maker.get();
            isThrown(what + " " + wrong, due, planner, () -> call.run(planner, wrong));
        }
    }

    /** A list's get throws as the document asks, too, but then its index was not looked at. */
    static boolean isThrownByThePlanner(RuntimeException e) {
        StackTraceElement[] trace = e.getStackTrace();
        return trace.length > 0 && trace[0].getClassName().equals("Pickwave");
    }

    void end(String name) {
        System.out.println(name + ": " + checks + " checks, " + wrong + " wrong");
        System.exit(wrong == 0 && checks > 0 ? 0 : 1);
    }
}
