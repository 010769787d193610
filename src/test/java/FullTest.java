/** What is full: 30 units, 200 messages, 512 calls. */
public final class FullTest {
    public static void main(String[] args) {
        Check check = new Check();
        theThirtiethUnit(check);
        the200thMessage(check);
        fullOfUnitsNotOfMessages(check);
        fullOfMessagesNotOfUnits(check);
        fullOfWrongMessages(check);
        fullInReverse(check);
        fullInOneMinute(check);
        fullOfBoth(check);
        the512thCall(check);
        the512thCallBehindRefusals(check);
        check.end();
    }

    /** "at most 30"; "no room: there are 30". */
    private static void theThirtiethUnit(Check check) {
        UnitStates x = Made.withUnits(29);
        check.due("told(6) of 29", x.told(6), 29);
        check.due("the 30th unit", x.unit(9, 9), 29);
        check.due("told(6) of 30", x.told(6), 30);
        check.due("the 30th unit's station", x.at(29, 0, 2), 9);
        check.refused("the 31st unit", Check.NO_ROOM, () -> x.unit(0, 0));
        check.refused("the 31st unit, again", Check.NO_ROOM, () -> x.unit(9, 9));
        check.due("told(6) behind the refusals", x.told(6), 30);
        check.due("the 30th unit's station behind them", x.at(29, 0, 2), 9);
        check.refused("unit 30", Check.UNKNOWN, () -> x.at(30, 0, 0));
    }

    /** "at most 200"; "no room: there are 200". */
    private static void the200thMessage(Check check) {
        UnitStates x = Made.withUnits(1);
        for (int i = 0; i < 199; i++) {
            check.due("message " + i, x.message(0, i, 13, i), i);
        }
        check.due("told(5) of 199", x.told(5), 199);
        check.due("the 200th message", x.message(0, 99_999, 13, 255), 199);
        check.due("told(5) of 200", x.told(5), 200);
        check.due("things by the 200th", x.at(0, 99_999, 5), 255);
        check.refused("the 201st message", Check.NO_ROOM, () -> x.message(0, 99_999, 13, 1));
        check.refused("the 201st message, again", Check.NO_ROOM, () -> x.message(0, 0, 13, 1));
        check.due("told(5) behind the refusals", x.told(5), 200);
        check.due("things behind the refusals", x.at(0, 99_999, 5), 255);
        check.due("things at first behind the refusals", x.at(0, 0, 5), 0);
        check.due("wrong(199)", x.wrong(199), 0);
        check.refused("wrong(200)", Check.UNKNOWN, () -> x.wrong(200));
    }

    private static void fullOfUnitsNotOfMessages(Check check) {
        UnitStates x = Made.fullOfUnits();
        check.refused("one more unit", Check.NO_ROOM, () -> x.unit(0, 0));
        check.due("the last unit's message", x.message(29, 10, 8, 0), 0);
        check.due("the last unit's state", x.at(29, 10, 0), 8);
        check.due("many on station", x.many(0, 10), 29);
        check.due("many out", x.many(8, 10), 1);
    }

    private static void fullOfMessagesNotOfUnits(Check check) {
        UnitStates x = Made.fullOfMessages();
        check.refused("one more message", Check.NO_ROOM, () -> x.message(0, 0, 8, 0));
        check.due("one more unit", x.unit(6, 6), 2);
        check.due("its station", x.at(2, 99_999, 2), 6);
        check.refused("its message", Check.NO_ROOM, () -> x.message(2, 0, 8, 0));
        check.due("its state", x.at(2, 99_999, 0), 0);
    }

    /** A wrong message does nothing, but takes its place; a refused one takes none. */
    private static void fullOfWrongMessages(Check check) {
        UnitStates x = Made.withUnits(1);
        for (int i = 0; i < 200; i++) {
            x.message(0, i, 4, 0);
            check.refused("a message of no unit", Check.UNKNOWN, () -> x.message(1, 0, 8, 0));
        }
        check.due("told(0)", x.told(0), 200);
        check.due("told(1)", x.told(1), 200);
        check.due("told(5)", x.told(5), 200);
        check.refused("one more", Check.NO_ROOM, () -> x.message(0, 0, 1, 0));
        check.refused("one more of no unit", Check.UNKNOWN, () -> x.message(1, 0, 1, 0));
        check.due("told(0) when full", x.told(0), 201);
        check.due("told(1) when full", x.told(1), 200);
    }

    /** Each message comes before all that came earlier. */
    private static void fullInReverse(Check check) {
        UnitStates x = Made.withUnits(1);
        for (int i = 0; i < 200; i++) {
            x.message(0, 99_999 - i, 13, i);
        }
        check.due("things before all", x.at(0, 99_799, 5), 0);
        for (int i = 0; i < 200; i++) {
            check.due("things by message " + i, x.at(0, 99_999 - i, 5), i);
        }
    }

    private static void fullInOneMinute(Check check) {
        UnitStates x = Made.withUnits(1);
        for (int i = 0; i < 200; i++) {
            x.message(0, 0, i % 2 == 0 ? 8 : 0, 0);
        }
        check.due("told(1)", x.told(1), 0);
        check.due("state", x.at(0, 0, 0), 0);
        check.due("since", x.at(0, 99_999, 1), 0);
        check.refused("one more", Check.NO_ROOM, () -> x.message(0, 0, 8, 0));
        check.due("state behind the refusal", x.at(0, 0, 0), 0);
    }

    private static void fullOfBoth(Check check) {
        UnitStates x = new UnitStates();
        for (int unit = 0; unit < 30; unit++) {
            x.unit(0, 0);
            x.message(unit, 0, 1, 19);
            x.message(unit, 1, 2, 0);
        }
        for (int unit = 29; unit >= 0; unit--) {
            x.message(unit, 2, 3, 0);
        }
        for (int i = 0; i < 110; i++) {
            x.message(i % 30, 3, 11, 7);
        }
        check.due("told(5)", x.told(5), 200);
        check.due("told(6)", x.told(6), 30);
        check.due("many at the scene", x.many(3, 99_999), 30);
        for (int rank = 1; rank <= 30; rank++) {
            check.due("arrived(19, " + rank + ", 2)", x.arrived(19, rank, 2), 30 - rank);
            check.due("rank of unit " + (30 - rank), x.at(30 - rank, 2, 9), rank);
        }
        check.due("arrived(19, 31, 2)", x.arrived(19, 31, 2), -1);
        check.refused("one more unit", Check.NO_ROOM, () -> x.unit(0, 0));
        check.refused("one more message", Check.NO_ROOM, () -> x.message(0, 2, 4, 0));
        check.due("many at the scene behind the refusals", x.many(3, 99_999), 30);
    }

    /** "An object is used for at most 512 calls": the last of them is answered like the first. */
    private static void the512thCall(Check check) {
        UnitStates x = Made.full();
        for (int call = 231; call < 512; call++) {
            check.due("call " + call, x.at(29, 99_999, 0), 3);
        }
        check.due("call 512", x.at(29, 99_999, 0), 3);
    }

    private static void the512thCallBehindRefusals(Check check) {
        UnitStates x = new UnitStates();
        for (int call = 1; call < 512; call++) {
            check.refused("call " + call, Check.UNKNOWN, () -> x.message(0, 0, 0, 0));
        }
        check.due("told(0), call 512", x.told(0), 511);
    }
}
