/** Promise 8: wrong. */
public final class WrongTest {
    /** The ways to each state from the first one. */
    private static final int[][] WAYS = {
        {}, {1}, {1, 2}, {1, 2, 3}, {1, 2, 3, 4}, {1, 2, 3, 5}, {1, 2, 6}, {7}, {8}, {9}, {10}
    };
    private static final int[][] FOLLOWERS = {
        {1, 7, 8, 9, 10}, {2, 0}, {3, 6}, {4, 5}, {5}, {1, 6}, {0, 1, 7}, {0, 6}, {0, 9}, {0, 8},
        {0, 9}
    };

    public static void main(String[] args) {
        Check check = new Check();
        refusals(check);
        followers(check);
        doesNothing(check);
        crewsBelowTheLeast(check);
        crewOfTheLeastAtFirst(check);
        crewOfTheSameMinute(check);
        otherStatesWithSmallCrew(check);
        cannotFollowWithSmallCrew(check);
        strangeStations(check);
        strangeButItIsSo(check);
        strangeWhereItCannotFollow(check);
        lostLinks(check);
        nothingToTell(check);
        allMessagesCount(check);
        lateMessages(check);
        check.end();
    }

    private static void refusals(Check check) {
        UnitStates x = new UnitStates();
        x.unit(0, 0);
        check.refused("wrong(0) without a message", Check.UNKNOWN, () -> x.wrong(0));
        x.message(0, 99_999, 12, 5);
        check.range("wrong", 0, 0, Check.UNKNOWN, x::wrong);
        x.message(0, 0, 12, 5);
        check.range("wrong", 0, 1, Check.UNKNOWN, x::wrong);
    }

    /** A unit that is in a state since minute 5. */
    private static UnitStates in(int state, int home, int least) {
        UnitStates x = new UnitStates();
        x.unit(home, least);
        for (int next : WAYS[state]) {
            x.message(0, 5, next, 0);
        }
        return x;
    }

    private static boolean canFollow(int before, int next) {
        boolean can = false;
        for (int follower : FOLLOWERS[before]) {
            can |= follower == next;
        }
        return can;
    }

    /** Each state behind each. */
    private static void followers(Check check) {
        for (int before = 0; before <= 10; before++) {
            for (int next = 0; next <= 10; next++) {
                boolean can = canFollow(before, next);
                UnitStates x = in(before, 0, 0);
                int number = x.message(0, 6, next, 0);
                String call = next + " behind " + before;
                check.due("state before " + call, x.at(0, 5, 0), before);
                check.due("wrong of " + call, x.wrong(number), can ? 0 : 1);
                check.due("state of " + call, x.at(0, 6, 0), can ? next : before);
                check.due("since of " + call, x.at(0, 6, 1), can ? 6 : before == 0 ? 0 : 5);
            }
        }
    }

    /** A wrong state leaves all as it was. */
    private static void doesNothing(Check check) {
        for (int before = 0; before <= 10; before++) {
            UnitStates due = in(before, 3, 0);
            UnitStates x = in(before, 3, 0);
            for (int next = 0; next <= 10; next++) {
                if (!canFollow(before, next)) {
                    x.message(0, 6, next, 4);
                }
            }
            for (int what = 0; what <= 9; what++) {
                check.due("at(0, 50, " + what + ") of " + before + " behind wrong ones",
                        x.at(0, 50, what), due.at(0, 50, what));
            }
        }
    }

    /** "2, 3, 4 are wrong (2) also when the crew is below the least one." */
    private static void crewsBelowTheLeast(Check check) {
        for (int least : new int[] {0, 1, 4, 9}) {
            for (int crew = 0; crew <= 9; crew++) {
                for (int next = 2; next <= 4; next++) {
                    UnitStates x = in(next - 1, 0, least);
                    x.message(0, 6, 12, crew);
                    int number = x.message(0, 7, next, 0);
                    String call = next + " with a crew of " + crew + " of " + least;
                    check.due("wrong of " + call, x.wrong(number), crew < least ? 2 : 0);
                    check.due("state of " + call, x.at(0, 7, 0), crew < least ? next - 1 : next);
                    check.due("since of " + call, x.at(0, 7, 1), crew < least ? 5 : 7);
                }
            }
        }
    }

    private static void crewOfTheLeastAtFirst(Check check) {
        UnitStates x = in(4, 0, 9);
        check.due("state", x.at(0, 5, 0), 4);
        check.due("told(2)", x.told(2), 0);
    }

    private static void crewOfTheSameMinute(Check check) {
        UnitStates x = in(1, 0, 4);
        int small = x.message(0, 10, 12, 3);
        int leaving = x.message(0, 10, 2, 0);
        check.due("a small crew itself", x.wrong(small), 0);
        check.due("leaving behind a small crew", x.wrong(leaving), 2);
        x.message(0, 10, 12, 4);
        check.due("leaving before the least crew", x.wrong(leaving), 2);
        int again = x.message(0, 10, 2, 0);
        check.due("leaving behind the least crew", x.wrong(again), 0);
        x.message(0, 10, 12, 3);
        check.due("leaving before a small crew", x.wrong(again), 0);
        check.due("the state stays with a small crew", x.at(0, 10, 0), 2);
    }

    private static void otherStatesWithSmallCrew(Check check) {
        UnitStates x = in(4, 0, 9);
        x.message(0, 10, 12, 0);
        for (int state : new int[] {5, 6, 1, 0, 7, 0, 8, 9, 0, 10, 0}) {
            int number = x.message(0, 50, state, 0);
            check.due(state + " with a small crew", x.wrong(number), 0);
            check.due("state with a small crew", x.at(0, 50, 0), state);
        }
        check.due("told(2)", x.told(2), 0);
    }

    /** It is the first reason that is told. */
    private static void cannotFollowWithSmallCrew(Check check) {
        UnitStates x = in(0, 0, 9);
        x.message(0, 5, 12, 0);
        for (int state = 2; state <= 4; state++) {
            int number = x.message(0, 6, state, 0);
            check.due(state + " that cannot follow, with a small crew", x.wrong(number), 1);
        }
    }

    /** "on station at another one than its home". */
    private static void strangeStations(Check check) {
        for (int home = 0; home <= 9; home++) {
            for (int station = 0; station <= 9; station++) {
                UnitStates x = in(8, home, 0);
                int number = x.message(0, 10, 0, station);
                check.due("wrong at station " + station + " of home " + home, x.wrong(number),
                        station == home ? 0 : 3);
            }
        }
    }

    private static void strangeButItIsSo(Check check) {
        UnitStates x = in(8, 3, 0);
        int strange = x.message(0, 10, 0, 4);
        check.due("wrong at another station", x.wrong(strange), 3);
        check.due("state", x.at(0, 10, 0), 0);
        check.due("since", x.at(0, 10, 1), 10);
        check.due("station", x.at(0, 10, 2), 4);
        int next = x.message(0, 11, 1, 5);
        check.due("wrong of what follows it", x.wrong(next), 0);
        check.due("state behind it", x.at(0, 11, 0), 1);
    }

    private static void strangeWhereItCannotFollow(Check check) {
        UnitStates x = in(0, 3, 0);
        check.due("another station behind on station", x.wrong(x.message(0, 6, 0, 4)), 1);
        check.due("home behind on station", x.wrong(x.message(0, 6, 0, 3)), 1);
        check.due("station", x.at(0, 6, 2), 3);
    }

    /** "one told while the link is lost is wrong (4)". */
    private static void lostLinks(Check check) {
        UnitStates x = new UnitStates();
        x.unit(0, 0);
        x.unit(0, 0);
        int before = x.message(0, 10, 11, 1);
        x.message(0, 10, 14, 0);
        int during = x.message(0, 10, 11, 2);
        int other = x.message(1, 10, 11, 2);
        int things = x.message(0, 11, 13, 9);
        int still = x.message(0, 12, 11, 2);
        x.message(0, 12, 14, 1);
        int behind = x.message(0, 12, 11, 2);
        int[] numbers = {before, during, other, things, still, behind};
        int[] due = {0, 4, 0, 0, 4, 0};
        for (int i = 0; i < due.length; i++) {
            check.due("wrong of the lost link's " + i, x.wrong(numbers[i]), due[i]);
        }
    }

    /** The kinds 11 to 15 at their first and last values, with the link there. */
    private static void nothingToTell(Check check) {
        int[] last = {999_999, 9, 255, 1, 999};
        UnitStates x = new UnitStates();
        x.unit(0, 9);
        for (int kind = 15; kind >= 11; kind--) {
            for (int value : new int[] {0, last[kind - 11]}) {
                int number = x.message(0, 99_999, kind, value);
                check.due("wrong of kind " + kind + ", " + value, x.wrong(number), 0);
            }
        }
    }

    /** "when all messages count": whatever was asked last. */
    private static void allMessagesCount(Check check) {
        UnitStates x = in(0, 0, 0);
        int early = x.message(0, 0, 2, 0);
        int last = x.message(0, 99_999, 2, 0);
        check.due("at(0, 0, 0)", x.at(0, 0, 0), 0);
        check.due("wrong of the first minute", x.wrong(early), 1);
        check.due("wrong of the last minute", x.wrong(last), 1);
        x.message(0, 99_998, 1, 0);
        check.due("at(0, 0, 0) again", x.at(0, 0, 0), 0);
        check.due("wrong of the last minute, mended", x.wrong(last), 0);
    }

    /** What is told of a message may change either way with each late one. */
    private static void lateMessages(Check check) {
        UnitStates x = new UnitStates();
        x.unit(0, 0);
        int leaving = x.message(0, 99_999, 2, 0);
        check.due("leaving without alarm", x.wrong(leaving), 1);
        int alarmed = x.message(0, 50, 1, 0);
        check.due("leaving behind an alarm", x.wrong(leaving), 0);
        x.message(0, 40, 8, 0);
        check.due("alarmed when out", x.wrong(alarmed), 1);
        check.due("leaving when out", x.wrong(leaving), 1);
        x.message(0, 45, 0, 0);
        check.due("alarmed when back", x.wrong(alarmed), 0);
        check.due("leaving when back", x.wrong(leaving), 0);
    }
}
