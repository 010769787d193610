/** Promise 3: message. */
public final class MessageTest {
    private static final int LOW = Integer.MIN_VALUE;
    private static final int HIGH = Integer.MAX_VALUE;
    /** The last value of each kind; HIGH where any value is fine. */
    private static final int[] LAST = {
        9, 19, HIGH, HIGH, HIGH, HIGH, HIGH, HIGH, HIGH, HIGH, HIGH, 999_999, 9, 255, 1, 999
    };

    public static void main(String[] args) {
        Check check = new Check();
        values(check);
        refusals(check);
        room(check);
        check.end();
    }

    private static void values(Check check) {
        UnitStates x = new UnitStates();
        x.unit(0, 0);
        int number = 0;
        for (int kind = 0; kind < LAST.length; kind++) {
            int last = LAST[kind];
            String call = "message of kind " + kind + " with value ";
            check.due(call + 0, x.message(0, 0, kind, 0), number++);
            check.due(call + last, x.message(0, 99_999, kind, last), number++);
            int of = kind;
            if (last == HIGH) {
                check.due(call + LOW, x.message(0, 7, kind, LOW), number++);
                check.due(call + -1, x.message(0, 7, kind, -1), number++);
            } else {
                check.refused(call + -1, Check.RANGE, () -> x.message(0, 0, of, -1));
                check.refused(call + LOW, Check.RANGE, () -> x.message(0, 0, of, LOW));
                check.refused(call + last + " and 1", Check.RANGE,
                        () -> x.message(0, 0, of, last + 1));
                check.refused(call + HIGH, Check.RANGE, () -> x.message(0, 0, of, HIGH));
            }
        }
        check.due("told(5)", x.told(5), number);
        check.due("told(0)", x.told(0), 0);
    }

    private static void refusals(Check check) {
        UnitStates x = new UnitStates();
        check.refused("no unit at all", Check.UNKNOWN, () -> x.message(0, 1, 1, 1));
        check.due("told(0)", x.told(0), 1);
        x.unit(0, 0);
        check.refused("unit 1", Check.UNKNOWN, () -> x.message(1, 1, 1, 1));
        check.refused("unit -1", Check.UNKNOWN, () -> x.message(-1, 1, 1, 1));
        check.refused("unit HIGH, all wrong", Check.UNKNOWN, () -> x.message(HIGH, -1, 16, -1));
        check.refused("unit LOW, all wrong", Check.UNKNOWN, () -> x.message(LOW, HIGH, -1, HIGH));
        check.due("told(0)", x.told(0), 5);
        for (int kind : new int[] {-1, 16, LOW, HIGH}) {
            check.refused("kind " + kind, Check.UNKNOWN, () -> x.message(0, 1, kind, 0));
            check.refused("kind " + kind + ", minute -1", Check.UNKNOWN,
                    () -> x.message(0, -1, kind, 0));
        }
        for (int t : new int[] {-1, 100_000, LOW, HIGH}) {
            check.refused("minute " + t, Check.RANGE, () -> x.message(0, t, 4, 0));
            check.refused("minute " + t + " and value", Check.RANGE, () -> x.message(0, t, 1, 20));
        }
        check.due("told(0) behind other refusals", x.told(0), 5);
        check.due("told(5) behind refusals alone", x.told(5), 0);
        check.due("state behind refusals alone", x.at(0, 99_999, 0), 0);
        check.due("the first number", x.message(0, 1, 1, 1), 0);
    }

    private static void room(Check check) {
        UnitStates x = new UnitStates();
        x.unit(0, 0);
        for (int i = 0; i < 200; i++) {
            check.due("message " + i, x.message(0, 99_999 - i, 12, i % 10), i);
        }
        check.refused("the 201st", Check.NO_ROOM, () -> x.message(0, 0, 12, 1));
        check.refused("the 201st, no unit", Check.UNKNOWN, () -> x.message(1, 0, 12, 1));
        check.refused("the 201st, no kind", Check.UNKNOWN, () -> x.message(0, 0, 16, 1));
        check.refused("the 201st, no minute", Check.RANGE, () -> x.message(0, 100_000, 12, 1));
        check.refused("the 201st, no value", Check.RANGE, () -> x.message(0, 0, 12, 10));
        check.due("told(5)", x.told(5), 200);
        check.due("told(0)", x.told(0), 1);
        check.due("told(1) of 200", x.told(1), 0);
        check.due("wrong(199)", x.wrong(199), 0);
        check.due("crew before all", x.at(0, 99_799, 4), 0);
        check.due("crew by the earliest, told last", x.at(0, 99_800, 4), 9);
        check.due("crew by the latest, told first", x.at(0, 99_999, 4), 0);
        check.refused("wrong(200)", Check.UNKNOWN, () -> x.wrong(200));
    }
}
