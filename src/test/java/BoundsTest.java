/**
 * Every range and row of numbers that the document names: the first and the last one are taken,
 * and do what they say; the ones just outside, and the farthest, are refused.
 */
public final class BoundsTest {
    private static final int LOW = Integer.MIN_VALUE;
    private static final int HIGH = Integer.MAX_VALUE;

    public static void main(String[] args) {
        Check check = new Check();
        minutes(check);
        homes(check);
        leastCrews(check);
        unitNumbers(check);
        messageNumbers(check);
        kinds(check);
        stations(check);
        incidents(check);
        statesWithoutValue(check);
        places(check);
        crews(check);
        things(check);
        links(check);
        ways(check);
        whatsOfAt(check);
        whatsOfTold(check);
        statesOfMany(check);
        incidentsOfArrived(check);
        ranks(check);
        check.end();
    }

    /** MINUTES are 0 .. 99,999. */
    private static void minutes(Check check) {
        UnitStates x = Made.withUnits(1);
        for (int kind = 0; kind <= 15; kind++) {
            int of = kind;
            check.range("message of kind " + kind + " at", 0, 99_999, Check.RANGE,
                    t -> x.message(0, t, of, 1));
        }
        for (int what = 0; what <= 9; what++) {
            int of = what;
            check.range("at " + what + " at", 0, 99_999, Check.RANGE, t -> x.at(0, t, of));
        }
        check.range("place at", 0, 99_999, Check.RANGE, t -> x.place(0, t));
        check.range("age at", 0, 99_999, Check.RANGE, t -> x.age(0, t));
        check.range("expected at", 0, 99_999, Check.RANGE, t -> x.expected(0, t));
        for (int state = 0; state <= 10; state++) {
            int of = state;
            check.range("many " + state + " at", 0, 99_999, Check.RANGE, t -> x.many(of, t));
        }
        check.range("arrived at", 0, 99_999, Check.RANGE, t -> x.arrived(0, 1, t));
    }

    /** A HOME station (0 .. 9). */
    private static void homes(Check check) {
        UnitStates x = new UnitStates();
        check.range("unit of home", 0, 9, Check.RANGE, home -> x.unit(home, 5));
        check.due("the first home", x.at(0, 0, 2), 0);
        check.due("the last home", x.at(1, 0, 2), 9);
        check.due("told(6)", x.told(6), 2);
    }

    /** A LEAST crew (0 .. 9), which is the crew at first. */
    private static void leastCrews(Check check) {
        UnitStates x = new UnitStates();
        check.range("unit of least", 0, 9, Check.RANGE, least -> x.unit(5, least));
        check.due("the first least crew", x.at(0, 0, 4), 0);
        check.due("the last least crew", x.at(1, 0, 4), 9);
        check.due("told(6)", x.told(6), 2);
    }

    /** UNITS 0, 1, .. */
    private static void unitNumbers(Check check) {
        for (int count : new int[] {1, 2, 29, 30}) {
            UnitStates x = Made.withUnits(count);
            int last = count - 1;
            for (int what = 0; what <= 9; what++) {
                int of = what;
                check.range("at " + what + " of unit", 0, last, Check.UNKNOWN,
                        unit -> x.at(unit, 0, of));
            }
            check.range("place of unit", 0, last, Check.UNKNOWN, unit -> x.place(unit, 0));
            check.range("age of unit", 0, last, Check.UNKNOWN, unit -> x.age(unit, 0));
            check.range("expected of unit", 0, last, Check.UNKNOWN, unit -> x.expected(unit, 0));
            for (int kind = 0; kind <= 15; kind++) {
                int of = kind;
                check.range("message of kind " + kind + " of unit", 0, last, Check.UNKNOWN,
                        unit -> x.message(unit, 0, of, 0));
            }
            check.due("told(0) of " + count + " units", x.told(0), 16 * 4);
        }
    }

    /** MESSAGES 0, 1, .. */
    private static void messageNumbers(Check check) {
        for (int count : new int[] {1, 2, 199, 200}) {
            UnitStates x = Made.withUnits(1);
            for (int i = 0; i < count; i++) {
                check.due("message " + i, x.message(0, 99_999 - i, 13, i), i);
            }
            check.range("wrong", 0, count - 1, Check.UNKNOWN, x::wrong);
            check.due("told(5)", x.told(5), count);
        }
    }

    /** STATES, kinds 0 .. 10, and 11 to 15. */
    private static void kinds(Check check) {
        UnitStates x = Made.withUnits(1);
        check.range("message of kind", 0, 15, Check.UNKNOWN, kind -> x.message(0, 10, kind, 1));
        check.due("told(5)", x.told(5), 2);
        check.due("told(0)", x.told(0), 0);
        check.due("kind 0 behind on station", x.wrong(0), 1);
        check.due("kind 15, expected", x.expected(0, 10), 11);
    }

    /** 0 on station (value: which, 0 .. 9). */
    private static void stations(Check check) {
        UnitStates x = Made.withUnits(1);
        x.message(0, 9, 8, 0);
        x.message(0, 19, 8, 0);
        check.range("on station", 0, 9, Check.RANGE,
                station -> x.message(0, station == 0 ? 10 : 20, 0, station));
        check.due("the first station", x.at(0, 10, 2), 0);
        check.due("the last station", x.at(0, 20, 2), 9);
        check.due("told(5)", x.told(5), 4);
    }

    /** 1 alarmed (value: the incident, 0 .. 19). */
    private static void incidents(Check check) {
        UnitStates x = new UnitStates();
        x.unit(0, 0);
        x.unit(0, 0);
        check.range("alarmed for", 0, 19, Check.RANGE,
                incident -> x.message(incident == 0 ? 0 : 1, 10, 1, incident));
        check.due("the first incident", x.at(0, 10, 3), 0);
        check.due("the last incident", x.at(1, 10, 3), 19);
        check.due("told(5)", x.told(5), 2);
    }

    /** Of the states 2 .. 10 the value does not matter. */
    private static void statesWithoutValue(Check check) {
        int[][] ways = {
            {1, 2}, {1, 2, 3}, {1, 2, 3, 4}, {1, 2, 3, 5}, {1, 2, 6}, {7}, {8}, {9}, {10}
        };
        for (int state = 2; state <= 10; state++) {
            int[] way = ways[state - 2];
            for (int value : new int[] {LOW, -1, 0, 9, 10, 19, 20, 999_999, 1_000_000, HIGH}) {
                UnitStates x = Made.withUnits(1);
                for (int i = 0; i < way.length - 1; i++) {
                    x.message(0, i, way[i], 0);
                }
                String call = state + " with value " + value;
                check.due(call, x.message(0, 50, state, value), way.length - 1);
                check.due("state of " + call, x.at(0, 50, 0), state);
                check.due("wrong of " + call, x.wrong(way.length - 1), 0);
                check.due("incident of " + call, x.at(0, 50, 3), state <= 5 ? 0 : -1);
            }
        }
    }

    /** 11 A PLACE (1,000 x + y, x and y 0 .. 999). */
    private static void places(Check check) {
        UnitStates x = Made.withUnits(1);
        check.range("place", 0, 999_999, Check.RANGE,
                place -> x.message(0, place == 0 ? 10 : 20, 11, place));
        check.due("the first place", x.place(0, 10), 0);
        check.due("age of the first place", x.age(0, 11), 1);
        check.due("the last place", x.place(0, 20), 999_999);
        for (int place : new int[] {999, 1_000, 999_000}) {
            x.message(0, 30, 11, place);
            check.due("place " + place, x.place(0, 30), place);
        }
    }

    /** 12 A CREW of so many (0 .. 9). */
    private static void crews(Check check) {
        UnitStates x = new UnitStates();
        x.unit(0, 4);
        check.range("crew", 0, 9, Check.RANGE, crew -> x.message(0, crew == 0 ? 10 : 20, 12, crew));
        check.due("the first crew", x.at(0, 10, 4), 0);
        check.due("the last crew", x.at(0, 20, 4), 9);
    }

    /** 13 THINGS (bits 0 .. 255). */
    private static void things(Check check) {
        UnitStates x = Made.withUnits(1);
        check.range("things", 0, 255, Check.RANGE,
                things -> x.message(0, things == 0 ? 20 : 10, 13, things));
        check.due("all things", x.at(0, 10, 5), 255);
        check.due("no things", x.at(0, 20, 5), 0);
    }

    /** 14 THE LINK is lost (0) or there (1). */
    private static void links(Check check) {
        UnitStates x = Made.withUnits(1);
        check.range("link", 0, 1, Check.RANGE, link -> x.message(0, link == 0 ? 10 : 20, 14, link));
        check.due("link at first", x.at(0, 9, 6), 1);
        check.due("link lost", x.at(0, 10, 6), 0);
        check.due("link there again", x.at(0, 20, 6), 1);
    }

    /** 15 EXPECTED: the minutes (0 .. 999) from then on. */
    private static void ways(Check check) {
        UnitStates x = Made.withUnits(1);
        check.range("expected in", 0, 999, Check.RANGE,
                way -> x.message(0, way == 0 ? 10 : 20, 15, way));
        check.due("expected at once", x.expected(0, 10), 10);
        check.due("expected last", x.expected(0, 20), 1_019);
        x.message(0, 99_999, 15, 999);
        check.due("expected behind the last minute", x.expected(0, 99_999), 100_998);
    }

    /** at: 0 its state .. 9 its rank. */
    private static void whatsOfAt(Check check) {
        UnitStates x = new UnitStates();
        x.unit(0, 0);
        x.message(0, 10, 1, 5);
        x.message(0, 11, 2, 0);
        x.message(0, 12, 3, 0);
        check.range("at(0, 12) of what", 0, 9, Check.UNKNOWN, what -> x.at(0, 12, what));
        check.due("the first what", x.at(0, 12, 0), 3);
        check.due("the last what", x.at(0, 12, 9), 1);
    }

    /** told: 0 messages of unknown units .. 6 units. */
    private static void whatsOfTold(Check check) {
        UnitStates x = Made.withUnits(3);
        check.refused("message(3, 0, 0, 0)", Check.UNKNOWN, () -> x.message(3, 0, 0, 0));
        check.range("told", 0, 6, Check.UNKNOWN, x::told);
        check.due("the first what", x.told(0), 1);
        check.due("the last what", x.told(6), 3);
    }

    /** many: no such state. */
    private static void statesOfMany(Check check) {
        UnitStates x = Made.withUnits(3);
        x.message(1, 10, 10, 0);
        check.range("many at 10 of state", 0, 10, Check.UNKNOWN, state -> x.many(state, 10));
        check.due("many of the first state", x.many(0, 10), 2);
        check.due("many of the last state", x.many(10, 10), 1);
    }

    /** arrived: no such incident. */
    private static void incidentsOfArrived(Check check) {
        UnitStates x = new UnitStates();
        for (int unit = 0; unit < 2; unit++) {
            x.unit(0, 0);
            x.message(unit, 10, 1, unit * 19);
            x.message(unit, 11, 2, 0);
            x.message(unit, 12, 3, 0);
        }
        check.range("arrived at incident", 0, 19, Check.UNKNOWN, no -> x.arrived(no, 1, 12));
        check.due("the first at the first incident", x.arrived(0, 1, 12), 0);
        check.due("the first at the last incident", x.arrived(19, 1, 12), 1);
    }

    /** arrived: a rank below 1 is outside its range; none is too great. */
    private static void ranks(Check check) {
        UnitStates x = new UnitStates();
        x.unit(0, 0);
        x.message(0, 10, 1, 5);
        x.message(0, 11, 2, 0);
        x.message(0, 12, 3, 0);
        for (int rank : new int[] {0, -1, LOW}) {
            check.refused("arrived of rank " + rank, Check.RANGE, () -> x.arrived(5, rank, 12));
            check.refused("arrived at none of rank " + rank, Check.RANGE,
                    () -> x.arrived(6, rank, 0));
        }
        check.due("arrived of rank 1", x.arrived(5, 1, 12), 0);
        for (int rank : new int[] {2, 30, 31, HIGH}) {
            check.due("arrived of rank " + rank, x.arrived(5, rank, 12), -1);
        }
    }
}
