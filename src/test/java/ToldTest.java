/** Promise 9: told. */
public final class ToldTest {
    public static void main(String[] args) {
        Check check = new Check();
        UnitStates x = new UnitStates();
        x.unit(0, 1);
        x.unit(5, 0);
        told(check, x, 0, 0, 0, 0, 0, 0, 2);
        // Wrong (1): four; strange (3): two; wrong (4): three; wrong (2): one.
        x.message(0, 9, 2, 0);
        x.message(0, 9, 3, 0);
        x.message(0, 9, 4, 0);
        x.message(1, 9, 0, 5);
        told(check, x, 0, 4, 0, 0, 0, 4, 2);
        x.message(0, 10, 8, 0);
        x.message(0, 11, 0, 1);
        x.message(1, 10, 10, 0);
        x.message(1, 99_999, 0, 0);
        told(check, x, 0, 4, 0, 2, 0, 8, 2);
        x.message(1, 20, 14, 0);
        x.message(1, 21, 11, 0);
        x.message(1, 22, 11, 0);
        x.message(1, 99_999, 11, 0);
        told(check, x, 0, 4, 0, 2, 3, 12, 2);
        x.message(0, 30, 1, 0);
        x.message(0, 31, 12, 0);
        x.message(0, 32, 2, 0);
        told(check, x, 0, 4, 1, 2, 3, 15, 2);
        check.due("at of an early minute changes nothing", x.at(0, 0, 0), 0);
        told(check, x, 0, 4, 1, 2, 3, 15, 2);
        check.refused("message of no unit", Check.UNKNOWN, () -> x.message(2, 0, 0, 0));
        check.refused("message of no unit, nor kind", Check.UNKNOWN, () -> x.message(-1, 0, 99, 0));
        check.refused("at of no unit is no message", Check.UNKNOWN, () -> x.at(2, 0, 0));
        told(check, x, 2, 4, 1, 2, 3, 15, 2);
        // A late link mends the places, a late alarm and crew the rest.
        x.message(1, 20, 14, 1);
        x.message(0, 31, 12, 1);
        told(check, x, 2, 4, 0, 2, 0, 17, 2);
        x.unit(0, 0);
        told(check, x, 2, 4, 0, 2, 0, 17, 3);
        for (int what : new int[] {-1, 7, Integer.MIN_VALUE, Integer.MAX_VALUE}) {
            check.refused("told(" + what + ")", Check.UNKNOWN, () -> x.told(what));
        }
        check.end();
    }

    private static void told(Check check, UnitStates x, int... due) {
        for (int what = 0; what < due.length; what++) {
            check.due("told(" + what + ")", x.told(what), due[what]);
        }
    }
}
