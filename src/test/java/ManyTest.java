/** Promise 10: many. */
public final class ManyTest {
    public static void main(String[] args) {
        Check check = new Check();
        UnitStates x = new UnitStates();
        for (int i = 0; i < 5; i++) {
            x.unit(i, 0);
        }
        x.message(0, 10, 1, 0);
        x.message(1, 10, 1, 0);
        x.message(2, 11, 10, 0);
        x.message(0, 12, 2, 0);
        x.message(3, 12, 4, 0);
        x.message(4, 99_999, 9, 0);
        many(check, x, 0, 5, 0, 0, 0, 0, 0, 0, 0, 0, 0, 0);
        many(check, x, 9, 5, 0, 0, 0, 0, 0, 0, 0, 0, 0, 0);
        many(check, x, 10, 3, 2, 0, 0, 0, 0, 0, 0, 0, 0, 0);
        many(check, x, 11, 2, 2, 0, 0, 0, 0, 0, 0, 0, 0, 1);
        many(check, x, 12, 2, 1, 1, 0, 0, 0, 0, 0, 0, 0, 1);
        many(check, x, 99_999, 1, 1, 1, 0, 0, 0, 0, 0, 0, 1, 1);
        for (int no : new int[] {-1, 11, Integer.MIN_VALUE, Integer.MAX_VALUE}) {
            check.refused("many(" + no + ", 0)", Check.UNKNOWN, () -> x.many(no, 0));
            check.refused("many(" + no + ", -1)", Check.UNKNOWN, () -> x.many(no, -1));
        }
        for (int t : new int[] {-1, 100_000, Integer.MIN_VALUE, Integer.MAX_VALUE}) {
            check.refused("many(0, " + t + ")", Check.RANGE, () -> x.many(0, t));
            check.refused("many(10, " + t + ")", Check.RANGE, () -> x.many(10, t));
        }
        check.end();
    }

    private static void many(Check check, UnitStates x, int t, int... due) {
        for (int state = 0; state < due.length; state++) {
            check.due("many(" + state + ", " + t + ")", x.many(state, t), due[state]);
        }
    }
}
