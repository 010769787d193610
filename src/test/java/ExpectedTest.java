/** Promise 7: expected. */
public final class ExpectedTest {
    public static void main(String[] args) {
        Check check = new Check();
        refusals(check);
        arrivals(check);
        check.end();
    }

    private static void refusals(Check check) {
        UnitStates x = new UnitStates();
        x.unit(0, 0);
        for (int no : new int[] {-1, 1, Integer.MIN_VALUE, Integer.MAX_VALUE}) {
            check.refused("expected of unit " + no, Check.UNKNOWN, () -> x.expected(no, 0));
            check.refused("expected of unit " + no + ", no minute", Check.UNKNOWN,
                    () -> x.expected(no, 100_000));
        }
        for (int t : new int[] {-1, 100_000, Integer.MIN_VALUE, Integer.MAX_VALUE}) {
            check.refused("expected at " + t, Check.RANGE, () -> x.expected(0, t));
        }
    }

    private static void due(Check check, UnitStates x, int t, int minute) {
        check.due("expected(0, " + t + ")", x.expected(0, t), minute);
    }

    private static void arrivals(Check check) {
        UnitStates x = new UnitStates();
        x.unit(0, 0);
        due(check, x, 99_999, -1);
        x.message(0, 10, 15, 30);
        due(check, x, 9, -1);
        due(check, x, 10, 40);
        due(check, x, 99_999, 40);
        x.message(0, 12, 15, 0);
        due(check, x, 11, 40);
        due(check, x, 12, 12);
        x.message(0, 12, 15, 5);
        due(check, x, 12, 17);
        // A wrong one did not come to the scene.
        x.message(0, 13, 3, 0);
        due(check, x, 13, 17);
        x.message(0, 11, 1, 1);
        due(check, x, 13, 17);
        x.message(0, 12, 2, 0);
        due(check, x, 12, 17);
        due(check, x, 13, -1);
        due(check, x, 99_999, -1);
        // One of the arrival's own minute, with a greater number, is behind it.
        x.message(0, 13, 15, 999);
        due(check, x, 13, 1_012);
        x.message(0, 99_999, 15, 999);
        due(check, x, 99_998, 1_012);
        due(check, x, 99_999, 100_998);
    }
}
