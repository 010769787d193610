/**
 * "AT A MINUTE all messages with that or an earlier minute count, by minutes, then by numbers, one
 * after the other".
 */
public final class OrderTest {
    public static void main(String[] args) {
        Check check = new Check();
        theMinuteItself(check);
        theFirstMinute(check);
        theLastMinute(check);
        byMinutes(check);
        thenByNumbers(check);
        lateOfTheSameMinute(check);
        lateBetweenMinutes(check);
        oneAfterTheOther(check);
        askedInAnyOrder(check);
        check.end();
    }

    private static void things(Check check, UnitStates x, int t, int due) {
        check.due("things at " + t, x.at(0, t, 5), due);
    }

    private static void theMinuteItself(Check check) {
        UnitStates x = Made.withUnits(1);
        x.message(0, 500, 13, 1);
        things(check, x, 499, 0);
        things(check, x, 500, 1);
        things(check, x, 501, 1);
    }

    private static void theFirstMinute(Check check) {
        UnitStates x = Made.withUnits(1);
        x.message(0, 0, 13, 1);
        things(check, x, 0, 1);
        x.message(0, 0, 8, 0);
        check.due("out at minute 0", x.at(0, 0, 0), 8);
        check.due("since minute 0", x.at(0, 0, 1), 0);
    }

    private static void theLastMinute(Check check) {
        UnitStates x = Made.withUnits(1);
        int number = x.message(0, 99_999, 2, 0);
        things(check, x, 99_999, 0);
        x.message(0, 99_999, 13, 1);
        things(check, x, 99_998, 0);
        things(check, x, 99_999, 1);
        check.due("wrong of the last minute's message", x.wrong(number), 1);
        check.due("told(1) with the last minute's message", x.told(1), 1);
    }

    private static void byMinutes(Check check) {
        UnitStates x = Made.withUnits(1);
        x.message(0, 30, 13, 3);
        x.message(0, 10, 13, 1);
        x.message(0, 20, 13, 2);
        things(check, x, 9, 0);
        things(check, x, 10, 1);
        things(check, x, 19, 1);
        things(check, x, 20, 2);
        things(check, x, 29, 2);
        things(check, x, 30, 3);
    }

    private static void thenByNumbers(Check check) {
        UnitStates x = Made.withUnits(1);
        x.message(0, 10, 13, 9);
        x.message(0, 10, 13, 4);
        x.message(0, 10, 13, 7);
        things(check, x, 9, 0);
        things(check, x, 10, 7);
    }

    /** A late message stands behind the others of its minute, however late it came. */
    private static void lateOfTheSameMinute(Check check) {
        UnitStates x = Made.withUnits(1);
        x.message(0, 10, 13, 1);
        x.message(0, 11, 13, 2);
        x.message(0, 12, 13, 3);
        x.message(0, 10, 13, 4);
        x.message(0, 11, 13, 5);
        things(check, x, 10, 4);
        things(check, x, 11, 5);
        things(check, x, 12, 3);
    }

    private static void lateBetweenMinutes(Check check) {
        UnitStates x = Made.withUnits(1);
        x.message(0, 10, 13, 1);
        x.message(0, 12, 13, 3);
        x.message(0, 11, 13, 2);
        x.message(0, 9, 13, 9);
        things(check, x, 8, 0);
        things(check, x, 9, 9);
        things(check, x, 10, 1);
        things(check, x, 11, 2);
        things(check, x, 12, 3);
    }

    /** Within one minute each state follows the one before it, and no other. */
    private static void oneAfterTheOther(Check check) {
        UnitStates x = new UnitStates();
        x.unit(0, 0);
        int[] states = {2, 1, 3, 2, 3};
        int[] due = {1, 0, 1, 0, 0};
        for (int state : states) {
            x.message(0, 10, state, 5);
        }
        for (int i = 0; i < due.length; i++) {
            check.due("wrong of " + states[i] + ", message " + i, x.wrong(i), due[i]);
        }
        check.due("state behind them", x.at(0, 10, 0), 3);
        check.due("state before them", x.at(0, 9, 0), 0);
    }

    private static void askedInAnyOrder(Check check) {
        UnitStates x = Made.withUnits(1);
        x.message(0, 10, 13, 1);
        x.message(0, 20, 13, 2);
        for (int t : new int[] {20, 0, 10, 99_999, 9, 19, 0, 20}) {
            things(check, x, t, t < 10 ? 0 : t < 20 ? 1 : 2);
        }
    }
}
