/** Promise 4: at. */
public final class AtTest {
    public static void main(String[] args) {
        Check check = new Check();
        refusals(check);
        course(check);
        reports(check);
        lateMessages(check);
        driving(check);
        restsInOneState(check);
        sendable(check);
        ranks(check);
        check.end();
    }

    private static void refusals(Check check) {
        UnitStates x = new UnitStates();
        x.unit(0, 0);
        for (int what = 0; what <= 9; what++) {
            int of = what;
            for (int t : new int[] {-1, 100_000, Integer.MIN_VALUE, Integer.MAX_VALUE}) {
                check.refused("at(0, " + t + ", " + what + ")", Check.RANGE, () -> x.at(0, t, of));
            }
            check.refused("at(1, -1, " + what + ")", Check.UNKNOWN, () -> x.at(1, -1, of));
            check.refused("at(-1, 0, " + what + ")", Check.UNKNOWN, () -> x.at(-1, 0, of));
        }
        for (int what : new int[] {-1, 10, Integer.MIN_VALUE, Integer.MAX_VALUE}) {
            check.refused("at(0, 0, " + what + ")", Check.UNKNOWN, () -> x.at(0, 0, what));
            check.refused("at(0, -1, " + what + ")", Check.UNKNOWN, () -> x.at(0, -1, what));
        }
    }

    /** state, since, station, incident */
    private static void standing(Check check, UnitStates x, int t, int... due) {
        for (int what = 0; what < due.length; what++) {
            check.due("at(0, " + t + ", " + what + ")", x.at(0, t, what), due[what]);
        }
    }

    private static void course(Check check) {
        UnitStates x = new UnitStates();
        x.unit(4, 0);
        x.message(0, 10, 1, 19);
        x.message(0, 11, 2, 0);
        x.message(0, 12, 3, 0);
        x.message(0, 13, 4, 0);
        x.message(0, 14, 5, 0);
        x.message(0, 15, 1, 7);
        x.message(0, 16, 2, 0);
        x.message(0, 17, 6, 0);
        x.message(0, 18, 7, 0);
        x.message(0, 19, 0, 5);
        x.message(0, 20, 10, 0);
        x.message(0, 21, 9, 0);
        x.message(0, 22, 8, 0);
        x.message(0, 99_999, 0, 4);
        standing(check, x, 0, 0, 0, 4, -1);
        standing(check, x, 9, 0, 0, 4, -1);
        standing(check, x, 10, 1, 10, -1, 19);
        standing(check, x, 11, 2, 11, -1, 19);
        standing(check, x, 12, 3, 12, -1, 19);
        standing(check, x, 13, 4, 13, -1, 19);
        standing(check, x, 14, 5, 14, -1, 19);
        standing(check, x, 15, 1, 15, -1, 7);
        standing(check, x, 16, 2, 16, -1, 7);
        standing(check, x, 17, 6, 17, -1, -1);
        standing(check, x, 18, 7, 18, -1, -1);
        standing(check, x, 19, 0, 19, 5, -1);
        standing(check, x, 20, 10, 20, -1, -1);
        standing(check, x, 21, 9, 21, -1, -1);
        standing(check, x, 22, 8, 22, -1, -1);
        standing(check, x, 99_998, 8, 22, -1, -1);
        standing(check, x, 99_999, 0, 99_999, 4, -1);
    }

    private static void reports(Check check) {
        UnitStates x = new UnitStates();
        x.unit(0, 3);
        x.message(0, 10, 12, 5);
        x.message(0, 20, 13, 255);
        x.message(0, 30, 14, 0);
        x.message(0, 40, 12, 2);
        x.message(0, 40, 13, 6);
        x.message(0, 40, 14, 1);
        int[][] due = {{9, 3, 0, 1}, {10, 5, 0, 1}, {20, 5, 255, 1}, {30, 5, 255, 0}, {40, 2, 6, 1}};
        for (int[] row : due) {
            check.due("crew at " + row[0], x.at(0, row[0], 4), row[1]);
            check.due("things at " + row[0], x.at(0, row[0], 5), row[2]);
            check.due("link at " + row[0], x.at(0, row[0], 6), row[3]);
        }
        check.due("things at 0, asked behind a later minute", x.at(0, 0, 5), 0);
    }

    private static void lateMessages(Check check) {
        UnitStates x = new UnitStates();
        x.unit(0, 0);
        x.message(0, 20, 2, 0);
        standing(check, x, 30, 0, 0, 0, -1);
        x.message(0, 10, 1, 3);
        standing(check, x, 30, 2, 20, -1, 3);
        standing(check, x, 9, 0, 0, 0, -1);
        // Of one minute the greater number counts later.
        x.message(0, 20, 6, 0);
        standing(check, x, 20, 6, 20, -1, -1);
        x.message(0, 20, 3, 0);
        standing(check, x, 20, 6, 20, -1, -1);
        x.message(0, 15, 0, 8);
        standing(check, x, 14, 1, 10, -1, 3);
        standing(check, x, 99_999, 0, 15, 8, -1);
    }

    private static void driven(Check check, UnitStates x, int t, int due) {
        check.due("at(0, " + t + ", 7)", x.at(0, t, 7), due);
    }

    private static void driving(Check check) {
        UnitStates x = new UnitStates();
        x.unit(0, 0);
        x.message(0, 0, 1, 0);
        x.message(0, 10, 2, 0);
        x.message(0, 20, 3, 0);
        x.message(0, 100, 5, 0);
        x.message(0, 200, 6, 0);
        x.message(0, 230, 0, 0);
        x.message(0, 259, 1, 0);
        x.message(0, 260, 2, 0);
        x.message(0, 265, 6, 0);
        x.message(0, 270, 7, 0);
        x.message(0, 300, 6, 0);
        x.message(0, 307, 7, 0);
        int[][] due = {
            {0, 0}, {9, 0}, {10, 0}, {11, 1}, {20, 10}, {21, 10}, {199, 10}, {200, 10}, {201, 11},
            {230, 40}, {258, 40}, {259, 40}, {260, 40}, {262, 42}, {265, 45}, {266, 46}, {270, 50},
            {299, 50}, {300, 0}, {301, 1}, {307, 7}, {336, 7}, {337, 0}, {99_999, 0}
        };
        for (int[] row : due) {
            driven(check, x, row[0], row[1]);
        }
    }

    /** Rest is on end in ONE of the states: a change from one to another begins it anew. */
    private static void restsInOneState(Check check) {
        for (int state = 7; state <= 10; state++) {
            UnitStates x = new UnitStates();
            x.unit(0, 0);
            x.message(0, 0, 1, 0);
            x.message(0, 0, 2, 0);
            x.message(0, 5, 6, 0);
            x.message(0, 50, 0, 0);
            x.message(0, 70, state, 0);
            driven(check, x, 79, 50);
            driven(check, x, 80, 50);
            driven(check, x, 99, 50);
            driven(check, x, 100, 0);
            // What is no change, or wrong, does not end a rest.
            x.message(0, 85, 12, 4);
            x.message(0, 86, 3, 0);
            x.message(0, 87, state, 0);
            driven(check, x, 99, 50);
            driven(check, x, 100, 0);
        }
    }

    private static void sends(Check check, UnitStates x, int t, int due) {
        check.due("at(0, " + t + ", 8)", x.at(0, t, 8), due);
    }

    private static void sendable(Check check) {
        UnitStates x = new UnitStates();
        x.unit(0, 2);
        int[] states = {1, 2, 3, 4, 5, 6, 7, 0, 8, 9, 0, 10, 0};
        for (int i = 0; i < states.length; i++) {
            x.message(0, i + 1, states[i], 0);
        }
        sends(check, x, 0, 1);
        for (int i = 0; i < states.length; i++) {
            int state = states[i];
            sends(check, x, i + 1, state == 0 || state == 5 || state == 6 ? 1 : 0);
        }
        x.message(0, 20, 12, 1);
        x.message(0, 21, 12, 2);
        x.message(0, 22, 14, 0);
        x.message(0, 23, 14, 1);
        int[] due = {0, 1, 0, 1};
        for (int i = 0; i < due.length; i++) {
            sends(check, x, 20 + i, due[i]);
        }
        x.message(0, 1_000, 1, 0);
        x.message(0, 1_000, 2, 0);
        x.message(0, 1_001, 6, 0);
        sends(check, x, 1_239, 1);
        sends(check, x, 1_240, 0);
        x.message(0, 1_240, 0, 0);
        sends(check, x, 1_269, 0);
        sends(check, x, 1_270, 1);
    }

    private static void ranks(Check check) {
        UnitStates x = new UnitStates();
        for (int unit = 0; unit < 4; unit++) {
            x.unit(0, 0);
            x.message(unit, 0, 1, unit == 3 ? 8 : 9);
            x.message(unit, 0, 2, 0);
        }
        // Of one minute the smaller number arrived earlier, whatever the unit's number.
        x.message(2, 10, 3, 0);
        x.message(0, 10, 3, 0);
        x.message(3, 5, 3, 0);
        x.message(1, 9, 3, 0);
        x.message(1, 20, 5, 0);
        x.message(1, 30, 6, 0);
        int[][] due = {
            {4, 0, 0, 0, 0}, {5, 0, 0, 0, 1}, {9, 0, 1, 0, 1}, {10, 3, 1, 2, 1}, {29, 3, 1, 2, 1},
            {30, 2, 0, 1, 1}
        };
        for (int[] row : due) {
            for (int unit = 0; unit < 4; unit++) {
                check.due("at(" + unit + ", " + row[0] + ", 9)",
                        x.at(unit, row[0], 9), row[unit + 1]);
            }
        }
        // Back at the same incident, it is ranked by its latest arrival.
        x.message(2, 40, 5, 0);
        x.message(2, 41, 1, 9);
        x.message(2, 42, 2, 0);
        check.due("rank while it comes again", x.at(2, 42, 9), 0);
        x.message(2, 43, 3, 0);
        check.due("rank of the one that came again", x.at(2, 43, 9), 2);
        check.due("rank of the one that stayed", x.at(0, 43, 9), 1);
    }
}
