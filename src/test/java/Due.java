import java.util.ArrayList;
import java.util.List;
import java.util.function.IntToLongFunction;

/** Gathers the answers that are not as due. */
final class Due {
    static final int BEYOND = -1000000001;
    static final int FULL = -1000000002;
    static final int KIND = -1000000003;
    static final int NONE = -1000000004;
    static final int STATE = -1000000005;
    static final int MISSING = -1000000006;
    static final int SIZE = -1000000007;

    private final List<String> wrong = new ArrayList<>();

    void is(String call, long got, long want) {
        if (got != want) {
            wrong.add(call + " answered " + got + ", due is " + want);
        }
    }

    void holds(String what, boolean does) {
        if (!does) {
            wrong.add(what + " does not hold");
        }
    }

    /** All that can be seen of a town is as it was told by Towns.told(..). */
    void isAsBefore(String call, RumourBeds x, String before) {
        String after = Towns.told(x);
        if (!after.equals(before)) {
            wrong.add(call + " changed " + before + " to " + after);
        }
    }

    /** Both edges may be; what lies outside of either is BEYOND, is counted, and changes nothing. */
    void bounds(RumourBeds x, String argument, IntToLongFunction call, int least, int most) {
        holds(argument + " may be " + least, call.applyAsLong(least) != BEYOND);
        holds(argument + " may be " + most, call.applyAsLong(most) != BEYOND);
        int counted = x.status(0);
        String before = Towns.told(x);
        int[] outside = {least - 1, most + 1, Integer.MIN_VALUE, Integer.MAX_VALUE};
        for (int v : outside) {
            is(argument + " " + v, call.applyAsLong(v), BEYOND);
        }
        is("status(0) behind " + argument, x.status(0), counted + outside.length);
        isAsBefore(argument, x, before);
    }

    List<String> wrong() {
        return wrong;
    }

    /** The end of a test that isn't told by sentences. */
    void end() {
        wrong.forEach(System.out::println);
        System.out.println(wrong.isEmpty() ? "all answers are as due" : wrong.size() + " answers are not as due");
        if (!wrong.isEmpty()) {
            System.exit(1);
        }
    }
}
