import java.util.function.IntSupplier;

/** Counts and prints the calls whose answer is not the one that is due. */
final class Check {
    static final Class<?> UNKNOWN = IllegalArgumentException.class;
    static final Class<?> RANGE = IndexOutOfBoundsException.class;
    static final Class<?> NO_ROOM = UnsupportedOperationException.class;

    private int wrong;

    void due(String call, int got, int want) {
        if (got != want) {
            complain(call + " answered " + got + ", due is " + want);
        }
    }

    void refused(String call, Class<?> due, IntSupplier made) {
        String got;
        try {
            got = "answered " + made.getAsInt();
        } catch (RuntimeException e) {
            if (e.getClass() == due) {
                return;
            }
            got = "threw " + e.getClass().getName();
        }
        complain(call + " " + got + ", due is " + due.getName());
    }

    void complain(String text) {
        wrong++;
        System.out.println(text);
    }

    void end() {
        System.out.println(wrong == 0 ? "all answers are as due" : wrong + " are not as due");
        if (wrong != 0) {
            System.exit(1);
        }
    }
}
