/** Promise 8: wrong. */
public final class WrongTest {
    /** The ways to each state from the first one. */
    private static final int[][] WAYS = {
        {}, {1}, {1, 2}, {1, 2, 3}, {1, 2, 3, 4}, {1, 2, 3, 5}, {1, 2, 6}, {7}, {8}, {9}, {10}
    };
    private static final int[][] FOLLOWERS = {
        {1, 7, 8, 9, 10}, {2, 0}, {3, 6}, {4, 5}, {5}, {1, 6}, {0, 1, 7}, {0, 6}, {0, 9}, {0, 8},
        {0, 9}
    };

    public static void main(String[] args) {
        Check check = new Check();
        refusals(check);
        followers(check);
        smallCrews(check);
        strangers(check);
        lostLinks(check);
        lateMessages(check);
        check.end();
    }

    private static void refusals(Check check) {
        UnitStates x = new UnitStates();
        x.unit(0, 0);
        x.message(0, 99_999, 12, 5);
        check.due("wrong(0)", x.wrong(0), 0);
        for (int no : new int[] {-1, 1, 200, Integer.MIN_VALUE, Integer.MAX_VALUE}) {
            check.refused("wrong(" + no + ")", Check.UNKNOWN, () -> x.wrong(no));
        }
    }

    private static void followers(Check check) {
        for (int before = 0; before <= 10; before++) {
            for (int next = 0; next <= 10; next++) {
                boolean can = false;
                for (int follower : FOLLOWERS[before]) {
                    can |= follower == next;
                }
                UnitStates x = new UnitStates();
                x.unit(0, 0);
                for (int state : WAYS[before]) {
                    x.message(0, 5, state, 0);
                }
                int number = x.message(0, 6, next, 0);
                String call = next + " behind " + before;
                check.due("state before " + call, x.at(0, 5, 0), before);
                check.due("wrong of " + call, x.wrong(number), can ? 0 : 1);
                check.due("state of " + call, x.at(0, 6, 0), can ? next : before);
                check.due("since of " + call, x.at(0, 6, 1), can ? 6 : before == 0 ? 0 : 5);
            }
        }
    }

    private static void smallCrews(Check check) {
        UnitStates x = new UnitStates();
        x.unit(0, 4);
        x.message(0, 10, 1, 0);
        int small = x.message(0, 10, 12, 3);
        int leaving = x.message(0, 20, 2, 0);
        int atScene = x.message(0, 30, 3, 0);
        int working = x.message(0, 40, 4, 0);
        check.due("a small crew itself", x.wrong(small), 0);
        smallCrewAt(check, x, 20, leaving, 1);
        check.due("at the scene without leaving, which tells more", x.wrong(atScene), 1);
        fullCrewFor(x, 20);
        check.due("leaving behind which the least crew came", x.wrong(leaving), 2);
        fullCrewFor(x, 19);
        check.due("leaving with the least crew", x.wrong(leaving), 0);
        smallCrewAt(check, x, 30, atScene, 2);
        fullCrewFor(x, 29);
        check.due("at the scene with the least crew", x.wrong(atScene), 0);
        smallCrewAt(check, x, 40, working, 3);
        fullCrewFor(x, 39);
        check.due("working with the least crew", x.wrong(working), 0);
        x.message(0, 41, 12, 0);
        for (int state : new int[] {5, 6, 1, 0, 7, 0, 8, 9, 0, 10}) {
            check.due(state + " with a small crew", x.wrong(x.message(0, 50, state, 0)), 0);
        }
        check.due("told(2)", x.told(2), 0);
    }

    private static void smallCrewAt(Check check, UnitStates x, int t, int number, int stays) {
        check.due("with a small crew at " + t, x.wrong(number), 2);
        check.due("the state behind it", x.at(0, t, 0), stays);
    }

    /** The least crew of four from a minute on, and a smaller one again five minutes later. */
    private static void fullCrewFor(UnitStates x, int t) {
        x.message(0, t, 12, 4);
        x.message(0, t + 5, 12, 3);
    }

    private static void strangers(Check check) {
        UnitStates x = new UnitStates();
        x.unit(3, 0);
        int atOnce = x.message(0, 0, 0, 4);
        x.message(0, 1, 8, 0);
        int strange = x.message(0, 2, 0, 4);
        x.message(0, 3, 8, 0);
        int home = x.message(0, 4, 0, 3);
        check.due("on station behind on station", x.wrong(atOnce), 1);
        check.due("at another station", x.wrong(strange), 3);
        check.due("but it is so", x.at(0, 2, 2), 4);
        check.due("at home", x.wrong(home), 0);
    }

    private static void lostLinks(Check check) {
        UnitStates x = new UnitStates();
        x.unit(0, 0);
        x.unit(0, 0);
        int before = x.message(0, 10, 11, 1);
        x.message(0, 10, 14, 0);
        int during = x.message(0, 10, 11, 2);
        int other = x.message(1, 10, 11, 2);
        int things = x.message(0, 11, 13, 9);
        int behind = x.message(0, 12, 11, 2);
        x.message(0, 12, 14, 1);
        int late = x.message(0, 12, 11, 2);
        int[] numbers = {before, during, other, things, behind, late};
        int[] due = {0, 4, 0, 0, 4, 0};
        for (int i = 0; i < due.length; i++) {
            check.due("wrong of the lost link's " + i, x.wrong(numbers[i]), due[i]);
        }
        check.due("things while the link is lost", x.at(0, 11, 5), 9);
    }

    /** What is told of a message may change either way with each late one. */
    private static void lateMessages(Check check) {
        UnitStates x = new UnitStates();
        x.unit(0, 0);
        int leaving = x.message(0, 99_999, 2, 0);
        check.due("leaving without alarm", x.wrong(leaving), 1);
        int alarmed = x.message(0, 50, 1, 0);
        check.due("leaving behind an alarm", x.wrong(leaving), 0);
        x.message(0, 40, 8, 0);
        check.due("alarmed when out", x.wrong(alarmed), 1);
        check.due("leaving when out", x.wrong(leaving), 1);
        check.due("at(0, 0, 0), which must not change what is told", x.at(0, 0, 0), 0);
        check.due("alarmed when out, again", x.wrong(alarmed), 1);
    }
}
