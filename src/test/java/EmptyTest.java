/** Promise 1 (a new object: no units), and what is asked where there is no unit, or no message. */
public final class EmptyTest {
    public static void main(String[] args) {
        Check check = new Check();
        noUnit(check);
        noUnitToAsk(check);
        noUnitToTellOf(check);
        theFirstUnit(check);
        noMessage(check);
        noMessageButOfAnother(check);
        noMessageYet(check);
        nothingShared(check);
        check.end();
    }

    private static void noUnit(Check check) {
        UnitStates x = new UnitStates();
        for (int what = 0; what <= 6; what++) {
            check.due("told(" + what + ") of a new object", x.told(what), 0);
        }
        for (int state = 0; state <= 10; state++) {
            check.due("many(" + state + ", 0) of a new object", x.many(state, 0), 0);
            check.due("many(" + state + ", 99999) of a new object", x.many(state, 99_999), 0);
        }
        for (int incident = 0; incident <= 19; incident++) {
            check.due("arrived(" + incident + ", 1, 99999) of a new object",
                    x.arrived(incident, 1, 99_999), -1);
        }
    }

    private static void noUnitToAsk(Check check) {
        UnitStates x = new UnitStates();
        for (int no : new int[] {-1, 0, 1, 29, 30}) {
            for (int what = 0; what <= 9; what++) {
                int of = what;
                check.refused("at(" + no + ", 0, " + what + ")", Check.UNKNOWN,
                        () -> x.at(no, 0, of));
            }
            check.refused("place(" + no + ", 0)", Check.UNKNOWN, () -> x.place(no, 0));
            check.refused("age(" + no + ", 0)", Check.UNKNOWN, () -> x.age(no, 0));
            check.refused("expected(" + no + ", 0)", Check.UNKNOWN, () -> x.expected(no, 0));
            check.refused("wrong(" + no + ")", Check.UNKNOWN, () -> x.wrong(no));
        }
        check.due("told(0) behind questions", x.told(0), 0);
    }

    private static void noUnitToTellOf(Check check) {
        UnitStates x = new UnitStates();
        check.refused("message(0, 0, 0, 0)", Check.UNKNOWN, () -> x.message(0, 0, 0, 0));
        check.due("told(0)", x.told(0), 1);
        check.due("told(5)", x.told(5), 0);
        check.refused("wrong(0)", Check.UNKNOWN, () -> x.wrong(0));
        // It is not kept for the unit that gets this number later.
        check.due("unit(0, 0)", x.unit(0, 0), 0);
        check.due("told(1) behind the unit", x.told(1), 0);
        check.due("message(0, 0, 8, 0)", x.message(0, 0, 8, 0), 0);
        check.due("told(0) behind the unit", x.told(0), 1);
    }

    private static void theFirstUnit(Check check) {
        UnitStates x = new UnitStates();
        check.due("unit(3, 2) of a new object", x.unit(3, 2), 0);
        check.due("told(6)", x.told(6), 1);
        check.due("many(0, 0)", x.many(0, 0), 1);
        check.refused("at(1, 0, 0)", Check.UNKNOWN, () -> x.at(1, 0, 0));
    }

    /** "At first a unit is on station, at home, since minute 0", and so on for all that is told. */
    private static void noMessage(Check check) {
        UnitStates x = new UnitStates();
        x.unit(7, 3);
        int[] first = {0, 0, 7, -1, 3, 0, 1, 0, 1, 0};
        for (int t : new int[] {0, 1, 29, 30, 31, 99_999}) {
            for (int what = 0; what <= 9; what++) {
                check.due("at(0, " + t + ", " + what + ")", x.at(0, t, what), first[what]);
            }
            check.due("place(0, " + t + ")", x.place(0, t), -1);
            check.due("age(0, " + t + ")", x.age(0, t), -1);
            check.due("expected(0, " + t + ")", x.expected(0, t), -1);
        }
        check.refused("wrong(0)", Check.UNKNOWN, () -> x.wrong(0));
        check.due("told(5)", x.told(5), 0);
    }

    private static void noMessageButOfAnother(Check check) {
        UnitStates alone = new UnitStates();
        alone.unit(7, 3);
        UnitStates x = new UnitStates();
        x.unit(7, 3);
        x.unit(1, 0);
        int[][] others = {
            {0, 1, 5}, {0, 2, 0}, {5, 3, 0}, {0, 11, 9}, {0, 12, 1}, {0, 13, 1}, {1, 14, 0},
            {6, 15, 9}
        };
        for (int[] m : others) {
            x.message(1, m[0], m[1], m[2]);
        }
        for (int what = 0; what <= 9; what++) {
            check.due("at(0, 50, " + what + ")", x.at(0, 50, what), alone.at(0, 50, what));
        }
        check.due("place(0, 50)", x.place(0, 50), -1);
        check.due("age(0, 50)", x.age(0, 50), -1);
        check.due("expected(0, 50)", x.expected(0, 50), -1);
    }

    /** A message of a later minute is none yet. */
    private static void noMessageYet(Check check) {
        UnitStates x = new UnitStates();
        x.unit(7, 3);
        int[][] later = {{1, 5}, {11, 9}, {12, 1}, {13, 1}, {14, 0}, {15, 9}};
        for (int[] m : later) {
            x.message(0, 99_999, m[0], m[1]);
        }
        int[] first = {0, 0, 7, -1, 3, 0, 1, 0, 1, 0};
        int[] last = {1, 99_999, -1, 5, 1, 1, 0, 0, 0, 0};
        for (int what = 0; what <= 9; what++) {
            check.due("at(0, 99998, " + what + ")", x.at(0, 99_998, what), first[what]);
            check.due("at(0, 99999, " + what + ")", x.at(0, 99_999, what), last[what]);
        }
        check.due("place(0, 99998)", x.place(0, 99_998), -1);
        check.due("age(0, 99998)", x.age(0, 99_998), -1);
        check.due("expected(0, 99998)", x.expected(0, 99_998), -1);
        check.due("many(1, 99998)", x.many(1, 99_998), 0);
        check.due("many(1, 99999)", x.many(1, 99_999), 1);
    }

    private static void nothingShared(Check check) {
        UnitStates used = Made.full();
        check.refused("message of no unit", Check.UNKNOWN, () -> used.message(30, 5, 1, 1));
        UnitStates x = new UnitStates();
        for (int what = 0; what <= 6; what++) {
            check.due("told(" + what + ") beside a full object", x.told(what), 0);
        }
        check.due("unit(0, 0) beside a full object", x.unit(0, 0), 0);
        check.due("message beside a full object", x.message(0, 0, 8, 0), 0);
        check.due("told(6) of the full object", used.told(6), 30);
        check.due("told(5) of the full object", used.told(5), 200);
    }
}
