/** Promise 9: told. */
public final class ToldTest {
    public static void main(String[] args) {
        Check check = new Check();
        nothing(check);
        unknownUnits(check);
        cannotFollow(check);
        crewsTooSmall(check);
        strange(check);
        linksLost(check);
        messagesAndUnits(check);
        rightOnesAreNotTold(check);
        lateMessages(check);
        earlierQuestions(check);
        refusals(check);
        check.end();
    }

    private static void told(Check check, UnitStates x, int... due) {
        for (int what = 0; what < due.length; what++) {
            check.due("told(" + what + ")", x.told(what), due[what]);
        }
    }

    private static UnitStates made(int... leastCrews) {
        UnitStates x = new UnitStates();
        for (int least : leastCrews) {
            x.unit(0, least);
        }
        return x;
    }

    private static void nothing(Check check) {
        told(check, new UnitStates(), 0, 0, 0, 0, 0, 0, 0);
        told(check, made(0), 0, 0, 0, 0, 0, 0, 1);
    }

    /** Of messages alone, and of the units that are unknown when the message comes. */
    private static void unknownUnits(Check check) {
        UnitStates x = made(0);
        check.refused("message(1, 0, 8, 0)", Check.UNKNOWN, () -> x.message(1, 0, 8, 0));
        told(check, x, 1, 0, 0, 0, 0, 0, 1);
        check.refused("message(-1, 0, 8, 0)", Check.UNKNOWN, () -> x.message(-1, 0, 8, 0));
        told(check, x, 2, 0, 0, 0, 0, 0, 1);
        check.refused("at(1, 0, 0)", Check.UNKNOWN, () -> x.at(1, 0, 0));
        check.refused("place(1, 0)", Check.UNKNOWN, () -> x.place(1, 0));
        check.refused("age(1, 0)", Check.UNKNOWN, () -> x.age(1, 0));
        check.refused("expected(1, 0)", Check.UNKNOWN, () -> x.expected(1, 0));
        check.refused("wrong(0)", Check.UNKNOWN, () -> x.wrong(0));
        check.refused("message(0, 0, 16, 0)", Check.UNKNOWN, () -> x.message(0, 0, 16, 0));
        told(check, x, 2, 0, 0, 0, 0, 0, 1);
        x.unit(0, 0);
        told(check, x, 2, 0, 0, 0, 0, 0, 2);
        x.message(1, 0, 8, 0);
        told(check, x, 2, 0, 0, 0, 0, 1, 2);
    }

    private static void cannotFollow(Check check) {
        UnitStates x = made(0, 0);
        x.message(0, 0, 2, 0);
        told(check, x, 0, 1, 0, 0, 0, 1, 2);
        x.message(1, 99_999, 4, 0);
        told(check, x, 0, 2, 0, 0, 0, 2, 2);
    }

    private static void crewsTooSmall(Check check) {
        UnitStates x = made(1);
        x.message(0, 0, 1, 0);
        x.message(0, 0, 12, 0);
        told(check, x, 0, 0, 0, 0, 0, 2, 1);
        x.message(0, 99_999, 2, 0);
        told(check, x, 0, 0, 1, 0, 0, 3, 1);
    }

    private static void strange(Check check) {
        UnitStates x = made(0);
        x.message(0, 0, 8, 0);
        x.message(0, 1, 0, 9);
        told(check, x, 0, 0, 0, 1, 0, 2, 1);
        x.message(0, 2, 8, 0);
        x.message(0, 99_999, 0, 1);
        told(check, x, 0, 0, 0, 2, 0, 4, 1);
    }

    private static void linksLost(Check check) {
        UnitStates x = made(0);
        x.message(0, 0, 14, 0);
        told(check, x, 0, 0, 0, 0, 0, 1, 1);
        x.message(0, 0, 11, 5);
        told(check, x, 0, 0, 0, 0, 1, 2, 1);
        x.message(0, 99_999, 11, 5);
        told(check, x, 0, 0, 0, 0, 2, 3, 1);
    }

    private static void messagesAndUnits(Check check) {
        told(check, Made.full(), 0, 0, 0, 0, 0, 200, 30);
        UnitStates x = Made.withUnits(7);
        for (int i = 0; i < 11; i++) {
            x.message(i % 7, i, 13, i);
        }
        told(check, x, 0, 0, 0, 0, 0, 11, 7);
    }

    /** Messages of which nothing is told are in none of 0 to 4. */
    private static void rightOnesAreNotTold(Check check) {
        UnitStates x = made(0);
        for (int kind : new int[] {1, 2, 3, 4, 5, 6, 7, 0, 11, 12, 13, 14, 15}) {
            x.message(0, 10, kind, 0);
        }
        told(check, x, 0, 0, 0, 0, 0, 13, 1);
    }

    /** A late message mends others, or makes them wrong. */
    private static void lateMessages(Check check) {
        UnitStates x = made(1);
        x.message(0, 30, 2, 0);
        x.message(0, 30, 11, 0);
        told(check, x, 0, 1, 0, 0, 0, 2, 1);
        x.message(0, 20, 14, 0);
        told(check, x, 0, 1, 0, 0, 1, 3, 1);
        x.message(0, 20, 1, 0);
        told(check, x, 0, 0, 0, 0, 1, 4, 1);
        x.message(0, 20, 12, 0);
        told(check, x, 0, 0, 1, 0, 1, 5, 1);
        x.message(0, 29, 12, 1);
        x.message(0, 29, 14, 1);
        told(check, x, 0, 0, 0, 0, 0, 7, 1);
    }

    private static void earlierQuestions(Check check) {
        UnitStates x = made(0);
        x.message(0, 30, 2, 0);
        x.message(0, 40, 2, 0);
        check.due("at(0, 0, 0)", x.at(0, 0, 0), 0);
        told(check, x, 0, 2, 0, 0, 0, 2, 1);
        check.due("at(0, 30, 0)", x.at(0, 30, 0), 0);
        told(check, x, 0, 2, 0, 0, 0, 2, 1);
    }

    private static void refusals(Check check) {
        check.range("told of an empty object", 0, 6, Check.UNKNOWN, new UnitStates()::told);
        check.range("told of a full object", 0, 6, Check.UNKNOWN, Made.full()::told);
    }
}
