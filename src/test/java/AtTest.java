/** Promise 4: at; its driving and sendable stand in DrivingTest. */
public final class AtTest {
    /** A way through all states, a minute each from minute 10 on. */
    private static final int[] WAY = {1, 2, 3, 4, 5, 1, 2, 6, 7, 0, 10, 9, 8, 0};

    public static void main(String[] args) {
        Check check = new Check();
        states(check);
        sinceItsMessage(check);
        sinceWithinOneMinute(check);
        sinceIsNotMovedByWrongOnes(check);
        stationOnlyInState0(check);
        stationIsTheLatestOne(check);
        incidentInStates1To5(check);
        incidentIsTheLatestOne(check);
        crew(check);
        things(check);
        link(check);
        rankInStates3To5(check);
        ranksByMinutes(check);
        ranksByMessagesNumbers(check);
        ranksOfTheSameIncidentAlone(check);
        ranksOfThoseThatAreThere(check);
        ranksByTheLatestArrival(check);
        lateMessages(check);
        check.end();
    }

    private static UnitStates onItsWay() {
        UnitStates x = new UnitStates();
        x.unit(4, 0);
        for (int i = 0; i < WAY.length; i++) {
            x.message(0, 10 + i, WAY[i], i == 0 ? 19 : 5);
        }
        return x;
    }

    private static void due(Check check, UnitStates x, int t, int what, int due) {
        check.due("at(0, " + t + ", " + what + ")", x.at(0, t, what), due);
    }

    private static void states(Check check) {
        UnitStates x = onItsWay();
        due(check, x, 0, 0, 0);
        due(check, x, 9, 0, 0);
        for (int i = 0; i < WAY.length; i++) {
            due(check, x, 10 + i, 0, WAY[i]);
        }
        due(check, x, 99_999, 0, 0);
    }

    private static void sinceItsMessage(Check check) {
        UnitStates x = new UnitStates();
        x.unit(0, 0);
        x.message(0, 10, 8, 0);
        x.message(0, 20, 0, 0);
        x.message(0, 99_999, 8, 0);
        int[][] rows = {{0, 0}, {9, 0}, {10, 10}, {11, 10}, {19, 10}, {20, 20}, {99_998, 20}};
        for (int[] row : rows) {
            due(check, x, row[0], 1, row[1]);
        }
        due(check, x, 99_999, 1, 99_999);
    }

    private static void sinceWithinOneMinute(Check check) {
        UnitStates x = new UnitStates();
        x.unit(0, 0);
        x.message(0, 10, 8, 0);
        x.message(0, 20, 0, 0);
        x.message(0, 20, 8, 0);
        due(check, x, 19, 1, 10);
        due(check, x, 20, 0, 8);
        due(check, x, 20, 1, 20);
    }

    private static void sinceIsNotMovedByWrongOnes(Check check) {
        UnitStates x = new UnitStates();
        x.unit(0, 0);
        x.message(0, 10, 8, 0);
        x.message(0, 11, 8, 0);
        x.message(0, 12, 1, 3);
        due(check, x, 12, 0, 8);
        due(check, x, 12, 1, 10);
    }

    private static void stationOnlyInState0(Check check) {
        UnitStates x = onItsWay();
        due(check, x, 9, 2, 4);
        for (int i = 0; i < WAY.length; i++) {
            due(check, x, 10 + i, 2, WAY[i] == 0 ? 5 : -1);
        }
    }

    private static void stationIsTheLatestOne(Check check) {
        UnitStates x = new UnitStates();
        x.unit(4, 0);
        x.message(0, 10, 0, 7);
        due(check, x, 10, 2, 4);
        x.message(0, 11, 1, 0);
        x.message(0, 12, 0, 7);
        due(check, x, 12, 2, 7);
        x.message(0, 13, 9, 0);
        x.message(0, 14, 0, 0);
        due(check, x, 14, 2, 0);
        x.message(0, 15, 9, 0);
        x.message(0, 16, 0, 9);
        due(check, x, 16, 2, 9);
    }

    /** "while it is in the states 1 .. 5; else none". */
    private static void incidentInStates1To5(Check check) {
        UnitStates x = onItsWay();
        due(check, x, 9, 3, -1);
        int[] incidents = {19, 19, 19, 19, 19, 5, 5, -1, -1, -1, -1, -1, -1, -1};
        for (int i = 0; i < WAY.length; i++) {
            due(check, x, 10 + i, 3, incidents[i]);
        }
    }

    /** "the latest one it was alarmed for": a wrong alarm is none. */
    private static void incidentIsTheLatestOne(Check check) {
        UnitStates x = new UnitStates();
        x.unit(0, 0);
        x.message(0, 10, 1, 0);
        x.message(0, 11, 1, 19);
        due(check, x, 11, 3, 0);
        x.message(0, 12, 0, 0);
        due(check, x, 12, 3, -1);
        x.message(0, 13, 1, 19);
        due(check, x, 13, 3, 19);
        x.message(0, 14, 2, 7);
        due(check, x, 14, 3, 19);
        x.message(0, 15, 3, 7);
        x.message(0, 16, 1, 4);
        due(check, x, 16, 3, 19);
        x.message(0, 17, 5, 7);
        x.message(0, 18, 1, 0);
        due(check, x, 17, 3, 19);
        due(check, x, 18, 3, 0);
    }

    /** "12 A CREW of so many (0 .. 9; at first the least)". */
    private static void crew(Check check) {
        for (int least : new int[] {0, 1, 8, 9}) {
            UnitStates x = new UnitStates();
            x.unit(0, least);
            x.message(0, 10, 12, 9 - least);
            x.message(0, 20, 12, 0);
            due(check, x, 0, 4, least);
            due(check, x, 9, 4, least);
            due(check, x, 10, 4, 9 - least);
            due(check, x, 19, 4, 9 - least);
            due(check, x, 20, 4, 0);
        }
    }

    /** "13 THINGS (bits 0 .. 255) that it has then (0 at first)": all of them, not more ones. */
    private static void things(Check check) {
        UnitStates x = Made.withUnits(1);
        x.message(0, 10, 13, 255);
        x.message(0, 20, 13, 1);
        x.message(0, 30, 13, 128);
        x.message(0, 40, 13, 0);
        int[][] rows = {{0, 0}, {9, 0}, {10, 255}, {19, 255}, {20, 1}, {30, 128}, {40, 0}};
        for (int[] row : rows) {
            due(check, x, row[0], 5, row[1]);
        }
    }

    /** "14 THE LINK is lost (0) or there (1, at first)". */
    private static void link(Check check) {
        UnitStates x = Made.withUnits(1);
        x.message(0, 10, 14, 1);
        x.message(0, 20, 14, 0);
        x.message(0, 30, 14, 0);
        x.message(0, 40, 14, 1);
        int[][] rows = {{0, 1}, {10, 1}, {19, 1}, {20, 0}, {30, 0}, {39, 0}, {40, 1}};
        for (int[] row : rows) {
            due(check, x, row[0], 6, row[1]);
        }
        // All but a place counts while it is lost.
        x.message(0, 25, 12, 7);
        x.message(0, 25, 13, 7);
        x.message(0, 25, 8, 0);
        x.message(0, 25, 15, 7);
        due(check, x, 25, 4, 7);
        due(check, x, 25, 5, 7);
        due(check, x, 25, 0, 8);
        check.due("expected(0, 25)", x.expected(0, 25), 32);
    }

    /** "(0 when it has none)". */
    private static void rankInStates3To5(Check check) {
        UnitStates x = onItsWay();
        due(check, x, 9, 9, 0);
        for (int i = 0; i < WAY.length; i++) {
            due(check, x, 10 + i, 9, WAY[i] >= 3 && WAY[i] <= 5 ? 1 : 0);
        }
    }

    /** Units that are leaving for their incidents since minute 0. */
    private static UnitStates leaving(int... incidents) {
        UnitStates x = new UnitStates();
        for (int unit = 0; unit < incidents.length; unit++) {
            x.unit(0, 0);
            x.message(unit, 0, 1, incidents[unit]);
            x.message(unit, 0, 2, 0);
        }
        return x;
    }

    private static void ranks(Check check, UnitStates x, int t, int... due) {
        for (int unit = 0; unit < due.length; unit++) {
            check.due("at(" + unit + ", " + t + ", 9)", x.at(unit, t, 9), due[unit]);
        }
    }

    private static void ranksByMinutes(Check check) {
        UnitStates x = leaving(5, 5, 5);
        x.message(0, 12, 3, 0);
        x.message(1, 11, 3, 0);
        x.message(2, 10, 3, 0);
        ranks(check, x, 9, 0, 0, 0);
        ranks(check, x, 10, 0, 0, 1);
        ranks(check, x, 11, 0, 2, 1);
        ranks(check, x, 12, 3, 2, 1);
    }

    /** Of one minute the smaller message's number is the earlier, whatever the unit's number. */
    private static void ranksByMessagesNumbers(Check check) {
        UnitStates x = leaving(5, 5, 5);
        x.message(2, 10, 3, 0);
        x.message(0, 10, 3, 0);
        x.message(1, 10, 3, 0);
        ranks(check, x, 9, 0, 0, 0);
        ranks(check, x, 10, 2, 3, 1);
        UnitStates late = leaving(5, 5);
        late.message(1, 11, 3, 0);
        late.message(0, 10, 3, 0);
        ranks(check, late, 11, 1, 2);
    }

    private static void ranksOfTheSameIncidentAlone(Check check) {
        UnitStates x = leaving(0, 19, 0, 19);
        for (int unit = 0; unit < 4; unit++) {
            x.message(unit, 10 + unit, 3, 0);
        }
        ranks(check, x, 13, 1, 1, 2, 2);
    }

    /** A unit that is on its way back, or alarmed again, has no rank and counts in none. */
    private static void ranksOfThoseThatAreThere(Check check) {
        UnitStates x = leaving(5, 5, 5);
        for (int unit = 0; unit < 3; unit++) {
            x.message(unit, 10 + unit, 3, 0);
        }
        x.message(0, 20, 4, 0);
        x.message(0, 21, 5, 0);
        x.message(0, 22, 6, 0);
        x.message(1, 23, 5, 0);
        x.message(1, 24, 1, 5);
        ranks(check, x, 20, 1, 2, 3);
        ranks(check, x, 21, 1, 2, 3);
        ranks(check, x, 22, 0, 1, 2);
        ranks(check, x, 23, 0, 1, 2);
        ranks(check, x, 24, 0, 0, 1);
    }

    private static void ranksByTheLatestArrival(Check check) {
        UnitStates x = leaving(5, 5);
        x.message(0, 10, 3, 0);
        x.message(1, 11, 3, 0);
        x.message(0, 20, 5, 0);
        x.message(0, 21, 1, 5);
        x.message(0, 22, 2, 0);
        x.message(0, 23, 3, 0);
        // A wrong message at the scene brought it nowhere.
        x.message(1, 24, 3, 0);
        ranks(check, x, 20, 1, 2);
        ranks(check, x, 21, 0, 1);
        ranks(check, x, 22, 0, 1);
        ranks(check, x, 23, 2, 1);
        ranks(check, x, 24, 2, 1);
    }

    private static void lateMessages(Check check) {
        UnitStates x = new UnitStates();
        x.unit(0, 0);
        x.message(0, 20, 2, 0);
        due(check, x, 30, 0, 0);
        x.message(0, 10, 1, 3);
        due(check, x, 30, 0, 2);
        due(check, x, 30, 3, 3);
        due(check, x, 9, 0, 0);
        x.message(0, 20, 6, 0);
        due(check, x, 20, 0, 6);
        x.message(0, 20, 3, 0);
        due(check, x, 20, 0, 6);
        x.message(0, 15, 0, 8);
        due(check, x, 14, 0, 1);
        due(check, x, 99_999, 0, 0);
        due(check, x, 99_999, 1, 15);
        due(check, x, 99_999, 2, 8);
    }
}
