/** Promise 2: unit. */
public final class UnitTest {
    private static final int[] OUTSIDE = {Integer.MIN_VALUE, -1, 10, Integer.MAX_VALUE};

    public static void main(String[] args) {
        Check check = new Check();
        UnitStates x = new UnitStates();
        refuseOutside(check, x);
        for (int i = 0; i < 30; i++) {
            check.due("the unit behind " + i + " ones", x.unit(i % 10, 9 - i % 10), i);
        }
        for (int i = 0; i < 30; i++) {
            check.due("state of unit " + i, x.at(i, 0, 0), 0);
            check.due("since of unit " + i, x.at(i, 99_999, 1), 0);
            check.due("station of unit " + i, x.at(i, 0, 2), i % 10);
            check.due("crew of unit " + i, x.at(i, 0, 4), 9 - i % 10);
        }
        check.refused("unit(0, 0) behind 30", Check.NO_ROOM, () -> x.unit(0, 0));
        check.refused("unit(9, 9) behind 30", Check.NO_ROOM, () -> x.unit(9, 9));
        // Range goes before no room.
        refuseOutside(check, x);
        check.due("told(6)", x.told(6), 30);
        check.refused("at(30, 0, 0)", Check.UNKNOWN, () -> x.at(30, 0, 0));
        check.end();
    }

    private static void refuseOutside(Check check, UnitStates x) {
        int before = x.told(6);
        for (int no : OUTSIDE) {
            check.refused("unit(" + no + ", 0)", Check.RANGE, () -> x.unit(no, 0));
            check.refused("unit(0, " + no + ")", Check.RANGE, () -> x.unit(0, no));
            check.refused("unit(" + no + ", " + no + ")", Check.RANGE, () -> x.unit(no, no));
        }
        check.due("told(6) behind refusals", x.told(6), before);
    }
}
