/** Promise 3: message. The values of each kind stand in BoundsTest. */
public final class MessageTest {
    private static final int LOW = Integer.MIN_VALUE;
    private static final int HIGH = Integer.MAX_VALUE;

    public static void main(String[] args) {
        Check check = new Check();
        numbersInOrder(check);
        numbersOfWrongOnes(check);
        sameMessageAgain(check);
        noSuchUnit(check);
        noSuchUnitIsTold(check);
        noSuchKind(check);
        noSuchMinute(check);
        noSuchValue(check);
        refusedMessagesTakeNoNumber(check);
        noRoom(check);
        check.end();
    }

    /** By their coming, not by their minutes or units. */
    private static void numbersInOrder(Check check) {
        UnitStates x = Made.withUnits(3);
        int[] minutes = {50, 99_999, 0, 50, 49, 51};
        for (int i = 0; i < minutes.length; i++) {
            check.due("message " + i, x.message(2 - i % 3, minutes[i], 13, i), i);
            check.due("told(5) behind it", x.told(5), i + 1);
        }
    }

    private static void numbersOfWrongOnes(Check check) {
        UnitStates x = Made.withUnits(1);
        check.due("a wrong message", x.message(0, 10, 4, 0), 0);
        check.due("one more", x.message(0, 10, 4, 0), 1);
        check.due("a right one", x.message(0, 10, 8, 0), 2);
        check.due("told(5)", x.told(5), 3);
    }

    private static void sameMessageAgain(Check check) {
        UnitStates x = Made.withUnits(1);
        check.due("out", x.message(0, 10, 8, 0), 0);
        check.due("out, again", x.message(0, 10, 8, 0), 1);
        check.due("wrong(0)", x.wrong(0), 0);
        check.due("wrong(1)", x.wrong(1), 1);
    }

    private static void noSuchUnit(Check check) {
        UnitStates x = Made.withUnits(2);
        for (int no : new int[] {LOW, -1, 2, 29, 30, HIGH}) {
            for (int kind = 0; kind <= 15; kind++) {
                int of = kind;
                check.refused("message(" + no + ", 0, " + kind + ", 0)", Check.UNKNOWN,
                        () -> x.message(no, 0, of, 0));
            }
        }
        check.due("told(0)", x.told(0), 6 * 16);
        check.due("told(5)", x.told(5), 0);
    }

    /** "(this is told by told(0))": whatever else is wrong with the message. */
    private static void noSuchUnitIsTold(Check check) {
        UnitStates x = Made.withUnits(1);
        int[][] others = {{0, 1, 0}, {0, 16, 0}, {0, -1, 0}, {-1, 1, 0}, {100_000, 1, 0}, {0, 1, 20},
            {-1, 16, -1}};
        for (int i = 0; i < others.length; i++) {
            int[] m = others[i];
            check.refused("message of no unit, " + i, Check.UNKNOWN,
                    () -> x.message(1, m[0], m[1], m[2]));
            check.due("told(0) behind it", x.told(0), i + 1);
        }
        UnitStates full = Made.fullOfMessages();
        check.refused("message of no unit, full", Check.UNKNOWN, () -> full.message(2, 0, 1, 0));
        check.due("told(0), full", full.told(0), 1);
    }

    private static void noSuchKind(Check check) {
        UnitStates x = Made.withUnits(1);
        for (int kind : new int[] {LOW, -1, 16, HIGH}) {
            check.refused("kind " + kind, Check.UNKNOWN, () -> x.message(0, 1, kind, 0));
            check.refused("kind " + kind + ", no minute", Check.UNKNOWN,
                    () -> x.message(0, 100_000, kind, 0));
            check.refused("kind " + kind + ", no value", Check.UNKNOWN,
                    () -> x.message(0, 1, kind, -1));
        }
        check.due("told(0)", x.told(0), 0);
        check.due("told(5)", x.told(5), 0);
    }

    private static void noSuchMinute(Check check) {
        UnitStates x = Made.withUnits(1);
        for (int t : new int[] {LOW, -1, 100_000, HIGH}) {
            for (int kind = 0; kind <= 15; kind++) {
                int of = kind;
                check.refused("kind " + kind + " at " + t, Check.RANGE,
                        () -> x.message(0, t, of, 0));
            }
            check.refused("alarmed at " + t + ", no incident", Check.RANGE,
                    () -> x.message(0, t, 1, 20));
        }
        check.due("told(0)", x.told(0), 0);
        check.due("told(5)", x.told(5), 0);
    }

    private static void noSuchValue(Check check) {
        UnitStates x = Made.withUnits(1);
        int[][] rows = {{0, 9}, {1, 19}, {11, 999_999}, {12, 9}, {13, 255}, {14, 1}, {15, 999}};
        for (int[] row : rows) {
            for (int no : new int[] {LOW, -1, row[1] + 1, HIGH}) {
                check.refused("kind " + row[0] + " of value " + no, Check.RANGE,
                        () -> x.message(0, 0, row[0], no));
            }
        }
        check.due("told(0)", x.told(0), 0);
        check.due("told(5)", x.told(5), 0);
    }

    private static void refusedMessagesTakeNoNumber(Check check) {
        UnitStates x = Made.withUnits(1);
        check.refused("no unit", Check.UNKNOWN, () -> x.message(1, 0, 8, 0));
        check.refused("no kind", Check.UNKNOWN, () -> x.message(0, 0, 16, 0));
        check.due("the first message", x.message(0, 10, 8, 0), 0);
        check.refused("no minute", Check.RANGE, () -> x.message(0, -1, 0, 0));
        check.refused("no value", Check.RANGE, () -> x.message(0, 10, 0, 10));
        check.due("state behind refusals", x.at(0, 10, 0), 8);
        check.due("the second message", x.message(0, 11, 0, 0), 1);
        check.due("told(5)", x.told(5), 2);
        check.refused("wrong(2)", Check.UNKNOWN, () -> x.wrong(2));
    }

    /** "no room: there are 200", behind unknown numbers and ranges. */
    private static void noRoom(Check check) {
        UnitStates x = Made.withUnits(1);
        for (int i = 0; i < 200; i++) {
            check.due("message " + i, x.message(0, 99_999 - i, 12, i % 10), i);
        }
        for (int kind = 0; kind <= 15; kind++) {
            int of = kind;
            check.refused("the 201st, of kind " + kind, Check.NO_ROOM,
                    () -> x.message(0, 0, of, 1));
        }
        check.refused("the 201st, no unit", Check.UNKNOWN, () -> x.message(1, 0, 12, 1));
        check.refused("the 201st, no kind", Check.UNKNOWN, () -> x.message(0, 0, 16, 1));
        check.refused("the 201st, no minute", Check.RANGE, () -> x.message(0, 100_000, 12, 1));
        check.refused("the 201st, no value", Check.RANGE, () -> x.message(0, 0, 12, 10));
        check.due("told(5)", x.told(5), 200);
        check.due("told(0)", x.told(0), 1);
        check.due("crew before all", x.at(0, 99_799, 4), 0);
        check.due("crew by the earliest, told last", x.at(0, 99_800, 4), 9);
        check.due("crew by the latest, told first", x.at(0, 99_999, 4), 0);
    }
}
