/** Promise 11: arrived. */
public final class ArrivedTest {
    public static void main(String[] args) {
        Check check = new Check();
        none(check);
        theMinuteItself(check);
        byMinutesThenNumbers(check);
        ofItsIncidentAlone(check);
        inStates3To5(check);
        wrongOnesDoNotArrive(check);
        latestArrival(check);
        lateArrival(check);
        firstAndLastMinute(check);
        allUnits(check);
        noSuchIncident(check);
        noSuchMinute(check);
        rankBelow1(check);
        check.end();
    }

    /** Units that are leaving for their incidents since minute 0. */
    private static UnitStates leaving(int... incidents) {
        UnitStates x = new UnitStates();
        for (int unit = 0; unit < incidents.length; unit++) {
            x.unit(0, 0);
            x.message(unit, 0, 1, incidents[unit]);
            x.message(unit, 0, 2, 0);
        }
        return x;
    }

    private static void due(Check check, UnitStates x, int incident, int t, int... units) {
        for (int rank = 1; rank <= units.length; rank++) {
            check.due("arrived(" + incident + ", " + rank + ", " + t + ")",
                    x.arrived(incident, rank, t), units[rank - 1]);
        }
    }

    /** "-1 for none". */
    private static void none(Check check) {
        due(check, new UnitStates(), 0, 0, -1, -1);
        due(check, Made.withUnits(1), 0, 99_999, -1, -1);
        UnitStates x = leaving(0);
        due(check, x, 0, 99_999, -1, -1);
        x.message(0, 10, 3, 0);
        due(check, x, 0, 10, 0, -1);
        check.due("the greatest rank", x.arrived(0, Integer.MAX_VALUE, 10), -1);
    }

    private static void theMinuteItself(Check check) {
        UnitStates x = leaving(7, 7);
        x.message(1, 10, 3, 0);
        x.message(0, 20, 3, 0);
        due(check, x, 7, 9, -1, -1);
        due(check, x, 7, 10, 1, -1);
        due(check, x, 7, 19, 1, -1);
        due(check, x, 7, 20, 1, 0, -1);
    }

    private static void byMinutesThenNumbers(Check check) {
        UnitStates x = leaving(7, 7, 7, 7);
        x.message(3, 10, 3, 0);
        x.message(1, 10, 3, 0);
        x.message(0, 11, 3, 0);
        x.message(2, 9, 3, 0);
        due(check, x, 7, 11, 2, 3, 1, 0, -1);
    }

    private static void ofItsIncidentAlone(Check check) {
        UnitStates x = leaving(0, 19, 0, 19);
        for (int unit = 0; unit < 4; unit++) {
            x.message(unit, 20 - unit, 3, 0);
        }
        due(check, x, 0, 20, 2, 0, -1);
        due(check, x, 19, 20, 3, 1, -1);
        due(check, x, 1, 20, -1);
        due(check, x, 18, 20, -1);
    }

    private static void inStates3To5(Check check) {
        for (int last : new int[] {1, 6}) {
            UnitStates x = leaving(7, 7);
            x.message(0, 10, 3, 0);
            x.message(1, 11, 3, 0);
            x.message(0, 20, 4, 0);
            x.message(0, 21, 5, 0);
            x.message(0, 22, last, 7);
            due(check, x, 7, 11, 0, 1, -1);
            due(check, x, 7, 20, 0, 1, -1);
            due(check, x, 7, 21, 0, 1, -1);
            due(check, x, 7, 22, 1, -1);
        }
    }

    private static void wrongOnesDoNotArrive(Check check) {
        UnitStates x = new UnitStates();
        x.unit(0, 1);
        x.message(0, 0, 1, 7);
        x.message(0, 1, 3, 0);
        due(check, x, 7, 1, -1);
        x.message(0, 2, 2, 0);
        x.message(0, 3, 12, 0);
        x.message(0, 4, 3, 0);
        due(check, x, 7, 4, -1);
        x.message(0, 5, 12, 1);
        x.message(0, 6, 3, 0);
        due(check, x, 7, 6, 0, -1);
    }

    private static void latestArrival(Check check) {
        UnitStates x = leaving(7, 7);
        x.message(0, 10, 3, 0);
        x.message(1, 11, 3, 0);
        x.message(0, 12, 5, 0);
        x.message(0, 13, 1, 7);
        x.message(0, 14, 2, 0);
        x.message(0, 15, 3, 0);
        due(check, x, 7, 12, 0, 1, -1);
        due(check, x, 7, 14, 1, -1);
        due(check, x, 7, 15, 1, 0, -1);
    }

    private static void lateArrival(Check check) {
        UnitStates x = leaving(7, 7);
        x.message(0, 20, 3, 0);
        x.message(1, 15, 3, 0);
        due(check, x, 7, 20, 1, 0, -1);
        x.message(0, 14, 3, 0);
        due(check, x, 7, 20, 0, 1, -1);
    }

    private static void firstAndLastMinute(Check check) {
        UnitStates x = leaving(7, 7);
        x.message(0, 99_999, 3, 0);
        x.message(1, 0, 3, 0);
        due(check, x, 7, 0, 1, -1);
        due(check, x, 7, 99_998, 1, -1);
        due(check, x, 7, 99_999, 1, 0, -1);
    }

    private static void allUnits(Check check) {
        UnitStates x = leaving(new int[30]);
        for (int unit = 29; unit >= 0; unit--) {
            x.message(unit, 50, 3, 0);
        }
        for (int rank = 1; rank <= 30; rank++) {
            check.due("arrived(0, " + rank + ", 50)", x.arrived(0, rank, 50), 30 - rank);
            check.due("rank of " + (30 - rank), x.at(30 - rank, 50, 9), rank);
        }
        check.due("arrived(0, 31, 50)", x.arrived(0, 31, 50), -1);
    }

    private static void noSuchIncident(Check check) {
        UnitStates x = leaving(7);
        check.range("arrived at", 0, 19, Check.UNKNOWN, incident -> x.arrived(incident, 1, 0));
        // Unknown goes before range.
        check.refused("arrived(20, 0, 0)", Check.UNKNOWN, () -> x.arrived(20, 0, 0));
        check.refused("arrived(-1, 1, -1)", Check.UNKNOWN, () -> x.arrived(-1, 1, -1));
        check.refused("arrived(20, 0, 100000)", Check.UNKNOWN, () -> x.arrived(20, 0, 100_000));
    }

    private static void noSuchMinute(Check check) {
        UnitStates x = leaving(7);
        check.range("arrived(7, 1) at", 0, 99_999, Check.RANGE, t -> x.arrived(7, 1, t));
    }

    private static void rankBelow1(Check check) {
        UnitStates x = leaving(7);
        x.message(0, 0, 3, 0);
        for (int rank : new int[] {0, -1, Integer.MIN_VALUE}) {
            check.refused("arrived(7, " + rank + ", 0)", Check.RANGE, () -> x.arrived(7, rank, 0));
            check.refused("arrived(7, " + rank + ", -1)", Check.RANGE,
                    () -> x.arrived(7, rank, -1));
        }
        check.due("arrived(7, 1, 0)", x.arrived(7, 1, 0), 0);
    }
}
