/** Promises 5 and 6: place and age. */
public final class PlaceTest {
    public static void main(String[] args) {
        Check check = new Check();
        refusals(check);
        places(check);
        lostLink(check);
        check.end();
    }

    private static void refusals(Check check) {
        UnitStates x = new UnitStates();
        x.unit(0, 0);
        for (int no : new int[] {-1, 1, Integer.MIN_VALUE, Integer.MAX_VALUE}) {
            check.refused("place of unit " + no, Check.UNKNOWN, () -> x.place(no, 0));
            check.refused("place of unit " + no + ", no minute", Check.UNKNOWN,
                    () -> x.place(no, -1));
            check.refused("age of unit " + no, Check.UNKNOWN, () -> x.age(no, 0));
            check.refused("age of unit " + no + ", no minute", Check.UNKNOWN, () -> x.age(no, -1));
        }
        for (int t : new int[] {-1, 100_000, Integer.MIN_VALUE, Integer.MAX_VALUE}) {
            check.refused("place at " + t, Check.RANGE, () -> x.place(0, t));
            check.refused("age at " + t, Check.RANGE, () -> x.age(0, t));
        }
    }

    private static void due(Check check, UnitStates x, int t, int place, int age) {
        check.due("place(0, " + t + ")", x.place(0, t), place);
        check.due("age(0, " + t + ")", x.age(0, t), age);
    }

    private static void places(Check check) {
        UnitStates x = new UnitStates();
        x.unit(0, 0);
        x.unit(0, 0);
        due(check, x, 99_999, -1, -1);
        x.message(0, 50, 11, 999_999);
        x.message(0, 20, 11, 0);
        x.message(1, 30, 11, 1_001);
        due(check, x, 19, -1, -1);
        due(check, x, 20, 0, 0);
        due(check, x, 49, 0, 29);
        due(check, x, 50, 999_999, 0);
        due(check, x, 99_999, 999_999, 99_949);
        x.message(0, 50, 11, 2_002);
        due(check, x, 50, 2_002, 0);
        x.message(0, 0, 11, 3_003);
        due(check, x, 0, 3_003, 0);
        due(check, x, 19, 3_003, 19);
        due(check, x, 60, 2_002, 10);
    }

    private static void lostLink(Check check) {
        UnitStates x = new UnitStates();
        x.unit(0, 0);
        x.message(0, 10, 11, 10);
        x.message(0, 20, 11, 20);
        x.message(0, 30, 11, 30);
        x.message(0, 20, 14, 0);
        due(check, x, 20, 20, 0);
        due(check, x, 35, 20, 15);
        x.message(0, 19, 14, 0);
        due(check, x, 35, 10, 25);
        x.message(0, 30, 14, 1);
        due(check, x, 35, 10, 25);
        x.message(0, 30, 11, 31);
        due(check, x, 35, 31, 5);
    }
}
