/** Promise 4, driving and sendable: at of what 7 and 8. */
public final class DrivingTest {
    public static void main(String[] args) {
        Check check = new Check();
        minutesInState2(check);
        minutesInState6(check);
        noMinutesInOtherStates(check);
        restOf29Minutes(check);
        restOf30Minutes(check);
        restOf31Minutes(check);
        restGoesOn(check);
        restInEachState(check);
        noRestInOtherStates(check);
        restInOneStateAlone(check);
        restGoesOnThroughOtherMessages(check);
        sinceTheLatestRest(check);
        sinceMinuteZero(check);
        upToTheLastMinute(check);
        restByLateMessage(check);
        sendableStates(check);
        sendableByCrew(check);
        sendableByLink(check);
        sendableBelow240(check);
        sendableAgainByRest(check);
        check.end();
    }

    private static UnitStates made(int[]... messages) {
        UnitStates x = new UnitStates();
        x.unit(0, 0);
        send(x, messages);
        return x;
    }

    /** Rows of a minute and a state. */
    private static void send(UnitStates x, int[]... messages) {
        for (int[] m : messages) {
            x.message(0, m[0], m[1], 0);
        }
    }

    private static int[] row(int minute, int state) {
        return new int[] {minute, state};
    }

    private static void drove(Check check, String when, UnitStates x, int t, int due) {
        check.due("driving at " + t + ", " + when, x.at(0, t, 7), due);
    }

    private static void sends(Check check, String when, UnitStates x, int t, int due) {
        check.due("sendable at " + t + ", " + when, x.at(0, t, 8), due);
    }

    private static void minutesInState2(Check check) {
        UnitStates x = made(row(10, 1), row(20, 2), row(35, 3));
        drove(check, "alarmed", x, 19, 0);
        drove(check, "leaving", x, 20, 0);
        drove(check, "left a minute ago", x, 21, 1);
        drove(check, "leaving", x, 34, 14);
        drove(check, "at the scene", x, 35, 15);
        drove(check, "at the scene", x, 36, 15);
    }

    private static void minutesInState6(Check check) {
        UnitStates x = made(row(10, 1), row(20, 2), row(20, 6), row(35, 1));
        drove(check, "returning", x, 20, 0);
        drove(check, "returning for a minute", x, 21, 1);
        drove(check, "returning", x, 34, 14);
        drove(check, "alarmed", x, 35, 15);
        drove(check, "alarmed", x, 36, 15);
    }

    private static void noMinutesInOtherStates(Check check) {
        UnitStates x = made(row(10, 1), row(20, 2), row(21, 3), row(100, 4), row(200, 5), row(300, 1),
                row(400, 2));
        drove(check, "alarmed", x, 19, 0);
        drove(check, "at the scene", x, 99, 1);
        drove(check, "working", x, 199, 1);
        drove(check, "relieved", x, 299, 1);
        drove(check, "alarmed", x, 399, 1);
        drove(check, "leaving", x, 400, 1);
        drove(check, "leaving", x, 401, 2);
    }

    /** A unit that drove 10 minutes, rested from 100 on, and was alarmed again. */
    private static UnitStates rested(int minutes) {
        return made(row(80, 1), row(90, 2), row(95, 6), row(100, 0), row(100 + minutes, 1),
                row(100 + minutes, 2));
    }

    private static void restOf29Minutes(Check check) {
        UnitStates x = rested(29);
        drove(check, "in the rest", x, 128, 10);
        drove(check, "behind the rest", x, 129, 10);
        drove(check, "driving again", x, 130, 11);
        drove(check, "driving again", x, 131, 12);
    }

    private static void restOf30Minutes(Check check) {
        UnitStates x = rested(30);
        drove(check, "in the rest", x, 129, 10);
        drove(check, "behind the rest", x, 130, 0);
        drove(check, "driving again", x, 131, 1);
    }

    private static void restOf31Minutes(Check check) {
        UnitStates x = rested(31);
        drove(check, "in the rest", x, 129, 10);
        drove(check, "in its 30th minute", x, 130, 0);
        drove(check, "behind the rest", x, 131, 0);
        drove(check, "driving again", x, 132, 1);
    }

    /** "while one goes on, too, from its 30th minute on". */
    private static void restGoesOn(Check check) {
        UnitStates x = made(row(80, 1), row(90, 2), row(95, 6), row(100, 0));
        drove(check, "before the rest", x, 99, 9);
        drove(check, "the rest begins", x, 100, 10);
        drove(check, "in its 29th minute", x, 129, 10);
        drove(check, "in its 30th minute", x, 130, 0);
        drove(check, "in its 31st minute", x, 131, 0);
        drove(check, "on and on", x, 99_999, 0);
    }

    private static void restInEachState(Check check) {
        for (int state : new int[] {0, 7, 8, 9, 10}) {
            UnitStates x = made(row(80, 1), row(90, 2), row(95, 6), row(100, 0));
            if (state != 0) {
                send(x, row(100, state));
            }
            check.due("state", x.at(0, 100, 0), state);
            drove(check, "in state " + state, x, 100, 10);
            drove(check, "in state " + state, x, 129, 10);
            drove(check, "in state " + state, x, 130, 0);
        }
    }

    private static void noRestInOtherStates(Check check) {
        UnitStates x = made(row(0, 1), row(0, 2), row(10, 3), row(1_000, 4), row(2_000, 5),
                row(3_000, 1), row(4_000, 2));
        for (int t : new int[] {10, 40, 999, 1_000, 1_030, 1_999, 2_000, 2_030, 3_000, 3_030, 4_000}) {
            drove(check, "without a rest", x, t, 10);
        }
        drove(check, "driving again", x, 4_005, 15);
    }

    /** "on end in one of the states": a change from one to another begins it anew. */
    private static void restInOneStateAlone(Check check) {
        UnitStates x = made(row(80, 1), row(90, 2), row(95, 6), row(100, 0), row(129, 8),
                row(158, 9), row(187, 0), row(216, 10));
        for (int t : new int[] {100, 129, 130, 158, 187, 216, 245}) {
            drove(check, "changing within 30 minutes", x, t, 10);
        }
        drove(check, "30 minutes in the last state", x, 246, 0);
    }

    private static void restGoesOnThroughOtherMessages(Check check) {
        UnitStates x = made(row(80, 1), row(90, 2), row(95, 6), row(100, 0));
        // A state that cannot follow is no change; nor is what is told besides.
        send(x, row(110, 0), row(115, 2), row(120, 3));
        for (int kind = 11; kind <= 15; kind++) {
            x.message(0, 125, kind, 0);
        }
        drove(check, "in its 29th minute", x, 129, 10);
        drove(check, "in its 30th minute", x, 130, 0);
    }

    private static void sinceTheLatestRest(Check check) {
        UnitStates x = made(row(0, 1), row(0, 2), row(7, 6), row(10, 0), row(40, 1), row(40, 2),
                row(41, 6), row(45, 0), row(74, 1), row(74, 2), row(75, 6), row(80, 7), row(110, 6));
        drove(check, "before any rest", x, 10, 10);
        drove(check, "behind the first rest", x, 40, 0);
        drove(check, "since the first rest", x, 45, 5);
        drove(check, "behind no rest", x, 74, 5);
        drove(check, "since the first rest", x, 80, 11);
        drove(check, "since the first rest", x, 109, 11);
        drove(check, "behind the second rest", x, 110, 0);
        drove(check, "since the second rest", x, 113, 3);
    }

    /** "without any, since minute 0". */
    private static void sinceMinuteZero(Check check) {
        UnitStates x = made(row(0, 1), row(0, 2));
        drove(check, "at minute 0", x, 0, 0);
        drove(check, "at minute 1", x, 1, 1);
        drove(check, "at minute 240", x, 240, 240);
        drove(check, "at the last minute", x, 99_999, 99_999);
    }

    private static void upToTheLastMinute(Check check) {
        UnitStates x = made(row(0, 1), row(0, 2), row(5, 6), row(99_969, 0));
        drove(check, "returning", x, 99_968, 99_968);
        drove(check, "the rest begins", x, 99_969, 99_969);
        drove(check, "a minute before the last", x, 99_998, 99_969);
        drove(check, "30 minutes, at the last one", x, 99_999, 0);
        UnitStates later = made(row(0, 1), row(0, 2), row(5, 6), row(99_970, 0));
        drove(check, "29 minutes, at the last one", later, 99_999, 99_970);
    }

    private static void restByLateMessage(Check check) {
        UnitStates x = made(row(0, 1), row(0, 2), row(5, 6), row(100, 0), row(130, 1), row(130, 2));
        drove(check, "behind a rest", x, 131, 1);
        x.message(0, 101, 1, 0);
        drove(check, "the rest was none", x, 131, 101);
        x.message(0, 50, 7, 0);
        drove(check, "there was an earlier one", x, 99, 0);
        drove(check, "there was an earlier one", x, 131, 1);
    }

    /** "in the states 0, 5, 6". */
    private static void sendableStates(Check check) {
        int[] states = {1, 2, 3, 4, 5, 6, 7, 0, 8, 9, 0, 10, 0};
        int[] due = {0, 0, 0, 0, 1, 1, 0, 1, 0, 0, 1, 0, 1};
        UnitStates x = made();
        for (int i = 0; i < states.length; i++) {
            x.message(0, i + 1, states[i], 0);
        }
        sends(check, "at first", x, 0, 1);
        for (int i = 0; i < states.length; i++) {
            check.due("state at " + (i + 1), x.at(0, i + 1, 0), states[i]);
            sends(check, "in state " + states[i], x, i + 1, due[i]);
        }
    }

    /** "its crew is not below the least". */
    private static void sendableByCrew(Check check) {
        for (int least = 0; least <= 9; least++) {
            UnitStates x = new UnitStates();
            x.unit(0, least);
            sends(check, "the least crew of " + least + " at first", x, 0, 1);
            for (int crew = 0; crew <= 9; crew++) {
                x.message(0, 10 + crew, 12, crew);
                sends(check, "crew of " + crew + " of " + least, x, 10 + crew,
                        crew >= least ? 1 : 0);
            }
        }
    }

    /** "its link is there". */
    private static void sendableByLink(Check check) {
        UnitStates x = made();
        x.message(0, 10, 14, 0);
        x.message(0, 20, 14, 1);
        x.message(0, 30, 14, 0);
        x.message(0, 30, 14, 1);
        sends(check, "link there at first", x, 9, 1);
        sends(check, "link lost", x, 10, 0);
        sends(check, "link lost", x, 19, 0);
        sends(check, "link there again", x, 20, 1);
        sends(check, "link lost and there within a minute", x, 30, 1);
    }

    /** "it drove less than 240 minutes". */
    private static void sendableBelow240(Check check) {
        UnitStates x = made(row(0, 1), row(0, 2), row(1, 6));
        drove(check, "returning", x, 239, 239);
        sends(check, "239 minutes", x, 239, 1);
        drove(check, "returning", x, 240, 240);
        sends(check, "240 minutes", x, 240, 0);
        sends(check, "241 minutes", x, 241, 0);
        for (int minutes = 239; minutes <= 241; minutes++) {
            int due = minutes < 240 ? 1 : 0;
            UnitStates relieved = made(row(0, 1), row(0, 2), row(minutes, 3), row(500, 5));
            sends(check, "relieved, drove " + minutes, relieved, 500, due);
            UnitStates home = made(row(0, 1), row(0, 2), row(1, 6), row(minutes, 0));
            sends(check, "on station, drove " + minutes, home, minutes, due);
        }
    }

    private static void sendableAgainByRest(Check check) {
        UnitStates x = made(row(0, 1), row(0, 2), row(1, 6), row(240, 0));
        sends(check, "rested 0 minutes", x, 240, 0);
        sends(check, "rested 29 minutes", x, 269, 0);
        sends(check, "rested 30 minutes", x, 270, 1);
        sends(check, "rested 31 minutes", x, 271, 1);
    }
}
