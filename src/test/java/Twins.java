import java.util.Arrays;
import java.util.function.Supplier;
import java.util.function.ToLongFunction;

/** Objects that are made alike, of which one is asked what the other is not. */
final class Twins {
    private static final long LOW = -1000000000;
    private static final int ERRORS = 6;

    /** A call with one argument left open. */
    interface Call {
        long with(NeedleLine line, int argument);
    }

    private Twins() {
    }

    /** A call that is refused: its ERROR, and that it changes nothing but what told() tells. */
    static void refused(String call, long error, ToLongFunction<NeedleLine> asked) {
        refused(Rich::open, call, error, asked);
    }

    static void refused(Supplier<NeedleLine> made, String call, long error, ToLongFunction<NeedleLine> asked) {
        NeedleLine one = made.get();
        NeedleLine twin = made.get();
        Due.due(call, asked.applyAsLong(one), error);
        for (int k = 1; k <= ERRORS; k++) {
            Due.due("told(" + k + ") behind " + call, one.told(k), twin.told(k) + (error == LOW - k ? 1 : 0));
        }
        Due.isTrue(call + " changes nothing", Arrays.equals(Rich.reading(one), Rich.reading(twin)));
    }

    /** A call that answers what is so: it changes nothing, told() not either. */
    static void changesNothing(String call, long answer, ToLongFunction<NeedleLine> asked) {
        refused(Rich::open, call, answer, asked);
    }

    /**
     * An argument, '*' in the call's text, that is taken from least to most: the last ones that are
     * taken and the first that are refused, on both sides, and the least and the greatest int.
     */
    static void bounds(String call, int least, int most, Call asked) {
        bounds(Rich::open, call, least, most, asked);
    }

    static void bounds(Supplier<NeedleLine> made, String call, int least, int most, Call asked) {
        for (int taken : new int[] {least, most}) {
            long answer = asked.with(made.get(), taken);
            Due.isTrue(named(call, taken) + " is taken, but answered " + answer, answer >= LOW);
        }
        for (int refused : new int[] {least - 1, most + 1, Integer.MIN_VALUE, Integer.MAX_VALUE}) {
            refused(made, named(call, refused), LOW - 1, line -> asked.with(line, refused));
        }
    }

    private static String named(String call, int argument) {
        return call.replace("*", Integer.toString(argument));
    }
}
