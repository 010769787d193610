import java.util.function.Supplier;

/**
 * "Refusals, in this order: an unknown number, a number outside its range, not in this state, no
 * room", and "What is refused changes nothing (but told(0))": each call with each mixture of right
 * and wrong arguments, on an empty object, on one with a past, and on full ones.
 */
public final class RefusalsTest {
    private static final int LOW = Integer.MIN_VALUE;
    private static final int HIGH = Integer.MAX_VALUE;
    private static final int[] MINUTES = {0, 40, 99_999, -1, 100_000, LOW, HIGH};

    private interface Call {
        int on(UnitStates x);
    }

    private final Check check;
    private final String name;
    private final Supplier<UnitStates> maker;
    private final int units;
    private final int messages;
    private final int[] unchanged;

    private RefusalsTest(Check check, String name, Supplier<UnitStates> maker) {
        this.check = check;
        this.name = name;
        this.maker = maker;
        units = maker.get().told(6);
        messages = maker.get().told(5);
        unchanged = Made.answers(maker.get());
    }

    public static void main(String[] args) {
        Check check = new Check();
        new RefusalsTest(check, "empty", UnitStates::new).refuseAll();
        new RefusalsTest(check, "a unit alone", () -> Made.withUnits(1)).refuseAll();
        new RefusalsTest(check, "with a past", Made::withPast).refuseAll();
        new RefusalsTest(check, "full of units", Made::fullOfUnits).refuseAll();
        new RefusalsTest(check, "full of messages", Made::fullOfMessages).refuseAll();
        new RefusalsTest(check, "full", Made::full).refuseAll();
        check.end();
    }

    private void refuseAll() {
        unit();
        message();
        at();
        ofUnitAndMinute();
        wrong();
        told();
        many();
        arrived();
        allAtOnce();
    }

    private static boolean within(int number, int last) {
        return number >= 0 && number <= last;
    }

    /** The exception that is due, or null. */
    private static Class<?> due(boolean known, boolean inRange, boolean room) {
        return !known ? Check.UNKNOWN : !inRange ? Check.RANGE : !room ? Check.NO_ROOM : null;
    }

    private void call(String call, Class<?> due, int told, Call made) {
        UnitStates x = maker.get();
        String text = call + ", " + name;
        if (due == null) {
            check.answered(text, () -> made.on(x));
            return;
        }
        check.refused(text, due, () -> made.on(x));
        checkUnchanged(text, x, told);
    }

    private void checkUnchanged(String text, UnitStates x, int told) {
        int[] want = unchanged.clone();
        want[0] += told;
        check.same(text, Made.answers(x), want);
    }

    private int[] unitNumbers() {
        return new int[] {0, units - 1, -1, units, LOW, HIGH};
    }

    private void unit() {
        int[] numbers = {0, 9, -1, 10, LOW, HIGH};
        for (int home : numbers) {
            for (int least : numbers) {
                boolean inRange = within(home, 9) && within(least, 9);
                call("unit(" + home + ", " + least + ")", due(true, inRange, units < 30), 0,
                        x -> x.unit(home, least));
            }
        }
    }

    private void message() {
        for (int unit : unitNumbers()) {
            boolean isUnit = within(unit, units - 1);
            for (int kind : new int[] {1, 14, -1, 16, LOW, HIGH}) {
                boolean known = isUnit && within(kind, 15);
                int last = kind == 1 ? 19 : 1;
                for (int t : new int[] {0, 99_999, -1, 100_000}) {
                    for (int value : new int[] {0, last, -1, last + 1}) {
                        boolean inRange = within(t, 99_999) && within(value, last);
                        call("message(" + unit + ", " + t + ", " + kind + ", " + value + ")",
                                due(known, inRange, messages < 200), isUnit ? 0 : 1,
                                x -> x.message(unit, t, kind, value));
                    }
                }
            }
        }
    }

    private void at() {
        for (int unit : unitNumbers()) {
            for (int t : MINUTES) {
                for (int what : new int[] {0, 9, -1, 10, LOW, HIGH}) {
                    boolean known = within(unit, units - 1) && within(what, 9);
                    call("at(" + unit + ", " + t + ", " + what + ")",
                            due(known, within(t, 99_999), true), 0, x -> x.at(unit, t, what));
                }
            }
        }
    }

    private void ofUnitAndMinute() {
        for (int unit : unitNumbers()) {
            for (int t : MINUTES) {
                Class<?> due = due(within(unit, units - 1), within(t, 99_999), true);
                String numbers = "(" + unit + ", " + t + ")";
                call("place" + numbers, due, 0, x -> x.place(unit, t));
                call("age" + numbers, due, 0, x -> x.age(unit, t));
                call("expected" + numbers, due, 0, x -> x.expected(unit, t));
            }
        }
    }

    private void wrong() {
        for (int number : new int[] {0, messages - 1, -1, messages, 199, 200, LOW, HIGH}) {
            call("wrong(" + number + ")", due(within(number, messages - 1), true, true), 0,
                    x -> x.wrong(number));
        }
    }

    private void told() {
        for (int what : new int[] {0, 6, -1, 7, LOW, HIGH}) {
            call("told(" + what + ")", due(within(what, 6), true, true), 0, x -> x.told(what));
        }
    }

    private void many() {
        for (int state : new int[] {0, 10, -1, 11, LOW, HIGH}) {
            for (int t : MINUTES) {
                call("many(" + state + ", " + t + ")",
                        due(within(state, 10), within(t, 99_999), true), 0,
                        x -> x.many(state, t));
            }
        }
    }

    private void arrived() {
        for (int incident : new int[] {0, 19, -1, 20, LOW, HIGH}) {
            for (int rank : new int[] {1, HIGH, 0, -1, LOW}) {
                for (int t : MINUTES) {
                    boolean inRange = rank >= 1 && within(t, 99_999);
                    call("arrived(" + incident + ", " + rank + ", " + t + ")",
                            due(within(incident, 19), inRange, true), 0,
                            x -> x.arrived(incident, rank, t));
                }
            }
        }
    }

    /** Many refused calls on one object leave it as one does. */
    private void allAtOnce() {
        UnitStates x = maker.get();
        int told = 0;
        for (int no : new int[] {-1, units, LOW, HIGH}) {
            check.refused("message of " + no, Check.UNKNOWN, () -> x.message(no, 0, 1, 0));
            told++;
        }
        check.refused("unit(-1, 0)", Check.RANGE, () -> x.unit(-1, 0));
        check.refused("unit(0, 10)", Check.RANGE, () -> x.unit(0, 10));
        if (units > 0) {
            check.refused("kind 16", Check.UNKNOWN, () -> x.message(0, 0, 16, 0));
            check.refused("minute -1", Check.RANGE, () -> x.message(0, -1, 1, 0));
            check.refused("incident 20", Check.RANGE, () -> x.message(0, 0, 1, 20));
        }
        if (units == 30) {
            check.refused("a unit more", Check.NO_ROOM, () -> x.unit(0, 0));
        }
        if (messages == 200) {
            check.refused("a message more", Check.NO_ROOM, () -> x.message(0, 0, 8, 0));
        }
        checkUnchanged("many refused calls, " + name, x, told);
    }
}
