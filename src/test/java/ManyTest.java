/** Promise 10: many. */
public final class ManyTest {
    public static void main(String[] args) {
        Check check = new Check();
        atFirst(check);
        eachState(check);
        theMinuteItself(check);
        wrongOnesDoNotCount(check);
        allUnits(check);
        unitsSumUp(check);
        noSuchState(check);
        noSuchMinute(check);
        check.end();
    }

    private static void many(Check check, UnitStates x, int t, int... due) {
        for (int state = 0; state < due.length; state++) {
            check.due("many(" + state + ", " + t + ")", x.many(state, t), due[state]);
        }
    }

    private static void atFirst(Check check) {
        many(check, new UnitStates(), 0, 0, 0, 0, 0, 0, 0, 0, 0, 0, 0, 0);
        many(check, Made.withUnits(1), 0, 1, 0, 0, 0, 0, 0, 0, 0, 0, 0, 0);
        many(check, Made.withUnits(30), 99_999, 30, 0, 0, 0, 0, 0, 0, 0, 0, 0, 0);
    }

    private static void eachState(Check check) {
        int[][] ways = {
            {}, {1}, {1, 2}, {1, 2, 3}, {1, 2, 3, 4}, {1, 2, 3, 5}, {1, 2, 6}, {7}, {8}, {9}, {10}
        };
        UnitStates x = new UnitStates();
        for (int unit = 0; unit < ways.length; unit++) {
            x.unit(0, 0);
            for (int state : ways[unit]) {
                x.message(unit, 10, state, 0);
            }
        }
        many(check, x, 9, 11, 0, 0, 0, 0, 0, 0, 0, 0, 0, 0);
        many(check, x, 10, 1, 1, 1, 1, 1, 1, 1, 1, 1, 1, 1);
    }

    private static void theMinuteItself(Check check) {
        UnitStates x = Made.withUnits(5);
        x.message(0, 10, 1, 0);
        x.message(1, 10, 1, 0);
        x.message(2, 11, 10, 0);
        x.message(0, 12, 2, 0);
        x.message(4, 99_999, 9, 0);
        many(check, x, 0, 5, 0, 0, 0, 0, 0, 0, 0, 0, 0, 0);
        many(check, x, 9, 5, 0, 0, 0, 0, 0, 0, 0, 0, 0, 0);
        many(check, x, 10, 3, 2, 0, 0, 0, 0, 0, 0, 0, 0, 0);
        many(check, x, 11, 2, 2, 0, 0, 0, 0, 0, 0, 0, 0, 1);
        many(check, x, 12, 2, 1, 1, 0, 0, 0, 0, 0, 0, 0, 1);
        many(check, x, 99_998, 2, 1, 1, 0, 0, 0, 0, 0, 0, 0, 1);
        many(check, x, 99_999, 1, 1, 1, 0, 0, 0, 0, 0, 0, 1, 1);
    }

    private static void wrongOnesDoNotCount(Check check) {
        UnitStates x = Made.withUnits(2);
        x.message(0, 10, 4, 0);
        x.message(1, 10, 3, 0);
        many(check, x, 10, 2, 0, 0, 0, 0, 0, 0, 0, 0, 0, 0);
    }

    private static void allUnits(Check check) {
        UnitStates x = Made.withUnits(30);
        for (int unit = 0; unit < 30; unit++) {
            x.message(unit, unit, 10, 0);
        }
        for (int t : new int[] {0, 1, 28, 29, 99_999}) {
            int gone = Math.min(t + 1, 30);
            many(check, x, t, 30 - gone, 0, 0, 0, 0, 0, 0, 0, 0, 0, gone);
        }
    }

    private static void unitsSumUp(Check check) {
        UnitStates x = Made.full();
        for (int t = 0; t <= 20; t += 5) {
            int sum = 0;
            for (int state = 0; state <= 10; state++) {
                sum += x.many(state, t);
            }
            check.due("units in all states at " + t, sum, 30);
        }
    }

    private static void noSuchState(Check check) {
        UnitStates x = Made.withUnits(1);
        for (int t : new int[] {0, 99_999}) {
            check.range("many at " + t + " of", 0, 10, Check.UNKNOWN, state -> x.many(state, t));
        }
        // Unknown goes before range.
        check.refused("many(-1, -1)", Check.UNKNOWN, () -> x.many(-1, -1));
        check.refused("many(11, 100000)", Check.UNKNOWN, () -> x.many(11, 100_000));
        check.refused("many(15, 0), a kind but no state", Check.UNKNOWN, () -> x.many(15, 0));
    }

    private static void noSuchMinute(Check check) {
        UnitStates x = Made.withUnits(1);
        for (int state : new int[] {0, 10}) {
            check.range("many of " + state + " at", 0, 99_999, Check.RANGE, t -> x.many(state, t));
        }
    }
}
