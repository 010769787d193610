/** Promise 1: a new object has no units, and shares nothing with another one. */
public final class NewObjectTest {
    public static void main(String[] args) {
        Check check = new Check();
        UnitStates used = new UnitStates();
        used.unit(1, 1);
        used.message(0, 5, 1, 1);
        check.refused("message of no unit", Check.UNKNOWN, () -> used.message(1, 5, 1, 1));

        UnitStates x = new UnitStates();
        for (int what = 0; what <= 6; what++) {
            check.due("told(" + what + ") of a new object", x.told(what), 0);
        }
        for (int state = 0; state <= 10; state++) {
            check.due("many(" + state + ", 0) of a new object", x.many(state, 0), 0);
        }
        check.due("arrived(0, 1, 99999) of a new object", x.arrived(0, 1, 99_999), -1);
        check.refused("at(0, 0, 0) of a new object", Check.UNKNOWN, () -> x.at(0, 0, 0));
        check.refused("wrong(0) of a new object", Check.UNKNOWN, () -> x.wrong(0));
        check.due("unit(0, 0) of a new object", x.unit(0, 0), 0);
        check.due("told(6) of the used object", used.told(6), 1);
        check.due("told(5) of the used object", used.told(5), 1);
        check.end();
    }
}
