/** Promise 2: unit. */
public final class UnitTest {
    private static final int[] OUTSIDE = {Integer.MIN_VALUE, -1, 10, Integer.MAX_VALUE};

    public static void main(String[] args) {
        Check check = new Check();
        numbersInOrder(check);
        homesAndLeastCrews(check);
        sameHomeAndLeastAgain(check);
        noSuchStation(check);
        noSuchLeastCrew(check);
        refusedUnitsTakeNoNumber(check);
        noRoom(check);
        rangeBeforeNoRoom(check);
        unitsBetweenMessages(check);
        check.end();
    }

    private static void numbersInOrder(Check check) {
        UnitStates x = new UnitStates();
        for (int i = 0; i < 30; i++) {
            check.due("the unit behind " + i + " ones", x.unit(i % 10, 9 - i % 10), i);
            check.due("told(6) behind it", x.told(6), i + 1);
        }
    }

    private static void homesAndLeastCrews(Check check) {
        UnitStates x = new UnitStates();
        for (int i = 0; i < 30; i++) {
            x.unit(i % 10, (i + 3) % 10);
        }
        for (int i = 0; i < 30; i++) {
            check.due("state of unit " + i, x.at(i, 0, 0), 0);
            check.due("since of unit " + i, x.at(i, 99_999, 1), 0);
            check.due("station of unit " + i, x.at(i, 0, 2), i % 10);
            check.due("crew of unit " + i, x.at(i, 0, 4), (i + 3) % 10);
        }
    }

    private static void sameHomeAndLeastAgain(Check check) {
        UnitStates x = new UnitStates();
        check.due("unit(5, 5)", x.unit(5, 5), 0);
        check.due("unit(5, 5) again", x.unit(5, 5), 1);
    }

    private static void noSuchStation(Check check) {
        UnitStates x = new UnitStates();
        for (int no : OUTSIDE) {
            for (int least : new int[] {0, 9}) {
                check.refused("unit(" + no + ", " + least + ")", Check.RANGE,
                        () -> x.unit(no, least));
            }
        }
    }

    private static void noSuchLeastCrew(Check check) {
        UnitStates x = new UnitStates();
        for (int no : OUTSIDE) {
            for (int home : new int[] {0, 9}) {
                check.refused("unit(" + home + ", " + no + ")", Check.RANGE,
                        () -> x.unit(home, no));
            }
        }
    }

    private static void refusedUnitsTakeNoNumber(Check check) {
        UnitStates x = new UnitStates();
        check.refused("unit(10, 0)", Check.RANGE, () -> x.unit(10, 0));
        check.due("told(6)", x.told(6), 0);
        check.due("unit(1, 1)", x.unit(1, 1), 0);
        check.refused("unit(0, -1)", Check.RANGE, () -> x.unit(0, -1));
        check.due("the station of the unit before", x.at(0, 0, 2), 1);
        check.due("unit(2, 2)", x.unit(2, 2), 1);
        check.due("told(6)", x.told(6), 2);
    }

    /** "no room: there are 30". */
    private static void noRoom(Check check) {
        UnitStates x = Made.withUnits(29);
        check.due("the 30th", x.unit(0, 0), 29);
        check.refused("unit(0, 0) behind 30", Check.NO_ROOM, () -> x.unit(0, 0));
        check.refused("unit(9, 9) behind 30", Check.NO_ROOM, () -> x.unit(9, 9));
        check.due("told(6)", x.told(6), 30);
    }

    private static void rangeBeforeNoRoom(Check check) {
        UnitStates x = Made.fullOfUnits();
        for (int no : OUTSIDE) {
            check.refused("unit(" + no + ", 0) behind 30", Check.RANGE, () -> x.unit(no, 0));
            check.refused("unit(0, " + no + ") behind 30", Check.RANGE, () -> x.unit(0, no));
        }
    }

    /** A unit that comes behind messages has none of them. */
    private static void unitsBetweenMessages(Check check) {
        UnitStates x = new UnitStates();
        x.unit(1, 1);
        x.message(0, 10, 8, 0);
        check.due("one more unit", x.unit(2, 2), 1);
        check.due("its state", x.at(1, 99_999, 0), 0);
        check.due("its station", x.at(1, 99_999, 2), 2);
        check.due("the other's state", x.at(0, 99_999, 0), 8);
    }
}
