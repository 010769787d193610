import java.util.Arrays;
import java.util.function.IntSupplier;
import java.util.function.IntUnaryOperator;

/** Counts and prints the calls whose answer is not the one that is due. */
final class Check {
    static final Class<?> UNKNOWN = IllegalArgumentException.class;
    static final Class<?> RANGE = IndexOutOfBoundsException.class;
    static final Class<?> NO_ROOM = UnsupportedOperationException.class;

    private int wrong;

    void due(String call, int got, int want) {
        if (got != want) {
            complain(call + " answered " + got + ", due is " + want);
        }
    }

    void refused(String call, Class<?> due, IntSupplier made) {
        String got;
        try {
            got = "answered " + made.getAsInt();
        } catch (RuntimeException e) {
            if (e.getClass() == due) {
                return;
            }
            got = "threw " + e.getClass().getName();
        }
        complain(call + " " + got + ", due is " + due.getName());
    }

    /** The first and the last number are answered; those just outside, and the farthest, refused. */
    void range(String call, int first, int last, Class<?> outside, IntUnaryOperator made) {
        for (int within : new int[] {first, last}) {
            answered(call + " " + within, () -> made.applyAsInt(within));
        }
        for (int no : new int[] {first - 1, last + 1, Integer.MIN_VALUE, Integer.MAX_VALUE}) {
            refused(call + " " + no, outside, () -> made.applyAsInt(no));
        }
    }

    void answered(String call, IntSupplier made) {
        try {
            made.getAsInt();
        } catch (RuntimeException e) {
            complain(call + " threw " + e.getClass().getName() + ", due is an answer");
        }
    }

    void same(String what, int[] got, int[] want) {
        if (!Arrays.equals(got, want)) {
            complain(what + ": the answers are " + Arrays.toString(got) + ", due are "
                    + Arrays.toString(want));
        }
    }

    void complain(String text) {
        wrong++;
        System.out.println(text);
    }

    void end() {
        System.out.println(wrong == 0 ? "all answers are as due" : wrong + " are not as due");
        if (wrong != 0) {
            System.exit(1);
        }
    }
}
