/** Promises 5 and 6: place and age. */
public final class PlaceTest {
    public static void main(String[] args) {
        Check check = new Check();
        noneWasTold(check);
        placeNought(check);
        fromThenOn(check);
        ageOfItsOwnMinute(check);
        ageFromFirstToLastMinute(check);
        latestOfOneMinute(check);
        latePlace(check);
        ofItsOwnUnit(check);
        noPlaceWhileTheLinkIsLost(check);
        linkLostBeforeAnyPlace(check);
        linkWithinOneMinute(check);
        lateLink(check);
        refusals(check);
        check.end();
    }

    private static void due(Check check, UnitStates x, int t, int place, int age) {
        check.due("place(0, " + t + ")", x.place(0, t), place);
        check.due("age(0, " + t + ")", x.age(0, t), age);
    }

    private static void noneWasTold(Check check) {
        UnitStates x = Made.withUnits(1);
        due(check, x, 0, -1, -1);
        due(check, x, 99_999, -1, -1);
        x.message(0, 0, 13, 7);
        due(check, x, 99_999, -1, -1);
    }

    /** Place 0 is a place. */
    private static void placeNought(Check check) {
        UnitStates x = Made.withUnits(1);
        x.message(0, 20, 11, 0);
        due(check, x, 19, -1, -1);
        due(check, x, 20, 0, 0);
        due(check, x, 21, 0, 1);
    }

    private static void fromThenOn(Check check) {
        UnitStates x = Made.withUnits(1);
        x.message(0, 20, 11, 1_001);
        x.message(0, 50, 11, 999_999);
        due(check, x, 19, -1, -1);
        due(check, x, 20, 1_001, 0);
        due(check, x, 49, 1_001, 29);
        due(check, x, 50, 999_999, 0);
        due(check, x, 51, 999_999, 1);
    }

    /** The same place told anew is a new one. */
    private static void ageOfItsOwnMinute(Check check) {
        UnitStates x = Made.withUnits(1);
        x.message(0, 20, 11, 5);
        x.message(0, 30, 11, 5);
        due(check, x, 29, 5, 9);
        due(check, x, 30, 5, 0);
    }

    private static void ageFromFirstToLastMinute(Check check) {
        UnitStates x = Made.withUnits(1);
        x.message(0, 0, 11, 5);
        due(check, x, 0, 5, 0);
        due(check, x, 99_999, 5, 99_999);
        x.message(0, 99_999, 11, 6);
        due(check, x, 99_998, 5, 99_998);
        due(check, x, 99_999, 6, 0);
    }

    private static void latestOfOneMinute(Check check) {
        UnitStates x = Made.withUnits(1);
        x.message(0, 20, 11, 9);
        x.message(0, 20, 11, 2);
        due(check, x, 20, 2, 0);
    }

    private static void latePlace(Check check) {
        UnitStates x = Made.withUnits(1);
        x.message(0, 50, 11, 5);
        x.message(0, 20, 11, 2);
        due(check, x, 49, 2, 29);
        due(check, x, 60, 5, 10);
    }

    private static void ofItsOwnUnit(Check check) {
        UnitStates x = Made.withUnits(2);
        x.message(1, 20, 11, 5);
        due(check, x, 30, -1, -1);
        check.due("place(1, 30)", x.place(1, 30), 5);
        check.due("age(1, 30)", x.age(1, 30), 10);
    }

    private static void noPlaceWhileTheLinkIsLost(Check check) {
        UnitStates x = Made.withUnits(2);
        x.message(0, 10, 11, 1);
        x.message(0, 20, 14, 0);
        x.message(0, 30, 11, 3);
        x.message(0, 40, 14, 1);
        x.message(0, 50, 11, 5);
        due(check, x, 20, 1, 10);
        due(check, x, 30, 1, 20);
        due(check, x, 40, 1, 30);
        due(check, x, 49, 1, 39);
        due(check, x, 50, 5, 0);
    }

    private static void linkLostBeforeAnyPlace(Check check) {
        UnitStates x = Made.withUnits(1);
        x.message(0, 0, 14, 0);
        x.message(0, 0, 11, 3);
        due(check, x, 0, -1, -1);
        due(check, x, 99_999, -1, -1);
    }

    private static void linkWithinOneMinute(Check check) {
        UnitStates x = Made.withUnits(1);
        x.message(0, 20, 11, 1);
        x.message(0, 20, 14, 0);
        x.message(0, 20, 11, 2);
        due(check, x, 20, 1, 0);
        x.message(0, 20, 14, 1);
        due(check, x, 20, 1, 0);
        x.message(0, 20, 11, 4);
        due(check, x, 20, 4, 0);
    }

    private static void lateLink(Check check) {
        UnitStates x = Made.withUnits(1);
        x.message(0, 10, 11, 1);
        x.message(0, 20, 11, 2);
        x.message(0, 20, 14, 0);
        due(check, x, 25, 2, 5);
        x.message(0, 19, 14, 0);
        due(check, x, 25, 1, 15);
        x.message(0, 19, 14, 1);
        due(check, x, 25, 2, 5);
    }

    private static void refusals(Check check) {
        UnitStates x = Made.withUnits(2);
        check.range("place of unit", 0, 1, Check.UNKNOWN, unit -> x.place(unit, 0));
        check.range("age of unit", 0, 1, Check.UNKNOWN, unit -> x.age(unit, 0));
        check.range("place at", 0, 99_999, Check.RANGE, t -> x.place(1, t));
        check.range("age at", 0, 99_999, Check.RANGE, t -> x.age(1, t));
        check.refused("place(2, -1)", Check.UNKNOWN, () -> x.place(2, -1));
        check.refused("age(2, 100000)", Check.UNKNOWN, () -> x.age(2, 100_000));
    }
}
