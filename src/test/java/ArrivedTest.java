/** Promise 11: arrived. */
public final class ArrivedTest {
    public static void main(String[] args) {
        Check check = new Check();
        refusals(check);
        ranks(check);
        allUnits(check);
        check.end();
    }

    private static void refusals(Check check) {
        UnitStates x = new UnitStates();
        x.unit(0, 0);
        for (int no : new int[] {-1, 20, Integer.MIN_VALUE, Integer.MAX_VALUE}) {
            check.refused("arrived(" + no + ", 1, 0)", Check.UNKNOWN, () -> x.arrived(no, 1, 0));
            check.refused("arrived(" + no + ", 0, -1)", Check.UNKNOWN, () -> x.arrived(no, 0, -1));
        }
        for (int t : new int[] {-1, 100_000, Integer.MIN_VALUE, Integer.MAX_VALUE}) {
            check.refused("arrived(0, 1, " + t + ")", Check.RANGE, () -> x.arrived(0, 1, t));
        }
        for (int rank : new int[] {0, -1, Integer.MIN_VALUE}) {
            check.refused("arrived(0, " + rank + ", 0)", Check.RANGE, () -> x.arrived(0, rank, 0));
        }
        check.due("arrived(19, 1, 0)", x.arrived(19, 1, 0), -1);
        check.due("a rank above all", x.arrived(0, Integer.MAX_VALUE, 99_999), -1);
    }

    private static void due(Check check, UnitStates x, int incident, int t, int... units) {
        for (int rank = 1; rank <= units.length; rank++) {
            check.due("arrived(" + incident + ", " + rank + ", " + t + ")",
                    x.arrived(incident, rank, t), units[rank - 1]);
        }
    }

    private static void ranks(Check check) {
        UnitStates x = new UnitStates();
        for (int unit = 0; unit < 4; unit++) {
            x.unit(0, 0);
            x.message(unit, 1, 1, unit == 2 ? 0 : 19);
            x.message(unit, 2, 2, 0);
        }
        x.message(3, 10, 3, 0);
        x.message(1, 10, 3, 0);
        x.message(2, 4, 3, 0);
        x.message(0, 20, 3, 0);
        due(check, x, 19, 9, -1, -1);
        due(check, x, 19, 10, 3, 1, -1);
        due(check, x, 19, 20, 3, 1, 0, -1);
        due(check, x, 0, 3, -1);
        due(check, x, 0, 4, 2, -1);
        due(check, x, 5, 99_999, -1);
        // Working and relieved units keep their rank; one that is alarmed again has none.
        x.message(3, 30, 4, 0);
        due(check, x, 19, 30, 3, 1, 0, -1);
        x.message(3, 31, 5, 0);
        due(check, x, 19, 31, 3, 1, 0, -1);
        x.message(3, 32, 1, 19);
        due(check, x, 19, 32, 1, 0, -1);
        // A late message of an earlier arrival moves the others.
        x.message(0, 9, 3, 0);
        due(check, x, 19, 20, 0, 3, 1, -1);
    }

    private static void allUnits(Check check) {
        UnitStates x = new UnitStates();
        for (int unit = 0; unit < 30; unit++) {
            x.unit(0, 0);
            x.message(unit, 0, 1, 7);
            x.message(unit, 0, 2, 0);
        }
        for (int unit = 29; unit >= 0; unit--) {
            x.message(unit, 50, 3, 0);
        }
        for (int rank = 1; rank <= 30; rank++) {
            check.due("arrived(7, " + rank + ", 50)", x.arrived(7, rank, 50), 30 - rank);
            check.due("rank of " + (30 - rank), x.at(30 - rank, 50, 9), rank);
        }
        check.due("arrived(7, 31, 50)", x.arrived(7, 31, 50), -1);
    }
}
