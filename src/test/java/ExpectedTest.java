/** Promise 7: expected. */
public final class ExpectedTest {
    public static void main(String[] args) {
        Check check = new Check();
        withoutOne(check);
        atOnceAndInTheEnd(check);
        byTheLatestMessage(check);
        latestOfOneMinute(check);
        behindTheLastMinute(check);
        cameToTheScene(check);
        cameInTheMessagesMinute(check);
        cameBeforeTheMessage(check);
        cameInItsMinuteBeforeTheMessage(check);
        wronglyToTheScene(check);
        cameByLateMessage(check);
        otherStatesLeaveIt(check);
        ofItsOwnUnit(check);
        refusals(check);
        check.end();
    }

    private static void due(Check check, UnitStates x, int t, int minute) {
        check.due("expected(0, " + t + ")", x.expected(0, t), minute);
    }

    private static UnitStates leaving() {
        UnitStates x = new UnitStates();
        x.unit(0, 0);
        x.message(0, 0, 1, 5);
        x.message(0, 0, 2, 0);
        return x;
    }

    private static void withoutOne(Check check) {
        UnitStates x = leaving();
        due(check, x, 0, -1);
        due(check, x, 99_999, -1);
        x.message(0, 10, 15, 5);
        due(check, x, 9, -1);
        due(check, x, 10, 15);
    }

    /** The minute passes, and it is expected for it still. */
    private static void atOnceAndInTheEnd(Check check) {
        UnitStates x = leaving();
        x.message(0, 0, 15, 0);
        due(check, x, 0, 0);
        due(check, x, 99_999, 0);
        x.message(0, 10, 15, 999);
        due(check, x, 10, 1_009);
        due(check, x, 1_009, 1_009);
        due(check, x, 1_010, 1_009);
        due(check, x, 99_999, 1_009);
    }

    private static void byTheLatestMessage(Check check) {
        UnitStates x = leaving();
        x.message(0, 12, 15, 0);
        x.message(0, 10, 15, 30);
        due(check, x, 9, -1);
        due(check, x, 10, 40);
        due(check, x, 11, 40);
        due(check, x, 12, 12);
    }

    private static void latestOfOneMinute(Check check) {
        UnitStates x = leaving();
        x.message(0, 10, 15, 30);
        x.message(0, 10, 15, 5);
        due(check, x, 10, 15);
    }

    private static void behindTheLastMinute(Check check) {
        UnitStates x = leaving();
        x.message(0, 99_999, 15, 999);
        due(check, x, 99_998, -1);
        due(check, x, 99_999, 100_998);
    }

    private static void cameToTheScene(Check check) {
        UnitStates x = leaving();
        x.message(0, 10, 15, 30);
        x.message(0, 20, 3, 0);
        due(check, x, 19, 40);
        due(check, x, 20, -1);
        due(check, x, 21, -1);
        due(check, x, 99_999, -1);
        // It is not expected again when it goes back.
        x.message(0, 21, 5, 0);
        x.message(0, 22, 6, 0);
        due(check, x, 22, -1);
    }

    private static void cameInTheMessagesMinute(Check check) {
        UnitStates x = leaving();
        x.message(0, 10, 15, 30);
        x.message(0, 10, 3, 0);
        due(check, x, 9, -1);
        due(check, x, 10, -1);
    }

    private static void cameBeforeTheMessage(Check check) {
        UnitStates x = leaving();
        x.message(0, 10, 3, 0);
        x.message(0, 11, 15, 30);
        due(check, x, 10, -1);
        due(check, x, 11, 41);
    }

    private static void cameInItsMinuteBeforeTheMessage(Check check) {
        UnitStates x = leaving();
        x.message(0, 10, 3, 0);
        x.message(0, 10, 15, 30);
        due(check, x, 10, 40);
    }

    private static void wronglyToTheScene(Check check) {
        UnitStates x = new UnitStates();
        x.unit(0, 1);
        x.message(0, 10, 15, 30);
        x.message(0, 11, 3, 0);
        due(check, x, 11, 40);
        x.message(0, 12, 1, 5);
        x.message(0, 13, 2, 0);
        x.message(0, 14, 12, 0);
        x.message(0, 15, 3, 0);
        check.due("at the scene without crew", x.wrong(5), 2);
        due(check, x, 15, 40);
    }

    private static void cameByLateMessage(Check check) {
        UnitStates x = leaving();
        x.message(0, 20, 15, 30);
        x.message(0, 30, 3, 0);
        due(check, x, 30, -1);
        x.message(0, 19, 3, 0);
        due(check, x, 30, 50);
    }

    private static void otherStatesLeaveIt(Check check) {
        UnitStates x = leaving();
        x.message(0, 10, 15, 30);
        int[] states = {6, 7, 0, 8, 9, 0, 10, 0, 1};
        for (int i = 0; i < states.length; i++) {
            x.message(0, 11 + i, states[i], 0);
            check.due("state", x.at(0, 11 + i, 0), states[i]);
            due(check, x, 11 + i, 40);
        }
        UnitStates there = leaving();
        there.message(0, 10, 3, 0);
        there.message(0, 10, 15, 30);
        there.message(0, 11, 4, 0);
        there.message(0, 12, 5, 0);
        due(check, there, 11, 40);
        due(check, there, 12, 40);
    }

    private static void ofItsOwnUnit(Check check) {
        UnitStates x = leaving();
        x.unit(0, 0);
        x.message(0, 10, 15, 30);
        x.message(1, 10, 1, 5);
        x.message(1, 11, 2, 0);
        x.message(1, 12, 3, 0);
        due(check, x, 12, 40);
        check.due("expected(1, 12)", x.expected(1, 12), -1);
    }

    private static void refusals(Check check) {
        UnitStates x = Made.withUnits(2);
        check.range("expected of unit", 0, 1, Check.UNKNOWN, unit -> x.expected(unit, 0));
        check.range("expected at", 0, 99_999, Check.RANGE, t -> x.expected(1, t));
        check.refused("expected(2, 100000)", Check.UNKNOWN, () -> x.expected(2, 100_000));
    }
}
