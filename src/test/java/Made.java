import java.util.Arrays;

/** Objects with a known past, and all that they answer. */
final class Made {
    /** What the answers hold where there is no room for one more. */
    private static final int REFUSED = Integer.MIN_VALUE;

    private Made() {}

    static UnitStates withUnits(int count) {
        UnitStates x = new UnitStates();
        for (int i = 0; i < count; i++) {
            x.unit(i % 10, i % 4);
        }
        return x;
    }

    /** Three units whose messages, of all kinds, are told in each way: nothing, and 1 to 4. */
    static UnitStates withPast() {
        UnitStates x = withUnits(3);
        int[][] messages = {
            {0, 10, 1, 5}, {0, 11, 2, 0}, {0, 20, 3, 0}, {0, 30, 4, 0}, {0, 31, 11, 7_008},
            {1, 10, 1, 5}, {1, 12, 15, 9}, {1, 12, 2, 0}, {1, 41, 3, 0}, {1, 13, 13, 77},
            {2, 5, 8, 0}, {2, 6, 0, 9}, {2, 7, 1, 19}, {2, 8, 12, 1}, {2, 9, 2, 0},
            {2, 10, 14, 0}, {2, 11, 11, 3}, {2, 50, 6, 0}
        };
        for (int[] m : messages) {
            x.message(m[0], m[1], m[2], m[3]);
        }
        return x;
    }

    static UnitStates fullOfUnits() {
        return withUnits(30);
    }

    static UnitStates fullOfMessages() {
        return withMessages(withUnits(2), 2);
    }

    static UnitStates full() {
        return withMessages(withUnits(30), 30);
    }

    private static UnitStates withMessages(UnitStates x, int units) {
        int[] kinds = {1, 12, 2, 11, 3, 13, 15};
        for (int i = 0; i < 200; i++) {
            int unit = i % units;
            int kind = kinds[i / units % kinds.length];
            x.message(unit, 10 + i / units, kind, kind == 12 ? 9 : 5);
        }
        return x;
    }

    /** Some 200 answers; told(0) is the first. */
    static int[] answers(UnitStates x) {
        int[] row = new int[512];
        int count = 0;
        for (int what = 0; what <= 6; what++) {
            row[count++] = x.told(what);
        }
        int units = x.told(6);
        for (int unit = 0; unit < units; unit++) {
            if (unit < 2 || unit == units - 1) {
                count = ofUnit(x, unit, row, count);
            }
        }
        for (int state = 0; state <= 10; state++) {
            row[count++] = x.many(state, 40);
        }
        for (int rank = 1; rank <= 3; rank++) {
            row[count++] = x.arrived(5, rank, 99_999);
        }
        int messages = x.told(5);
        for (int number = 0; number < messages; number += messages > 50 ? 9 : 1) {
            row[count++] = x.wrong(number);
        }
        return Arrays.copyOf(row, ofNext(x, row, count));
    }

    private static int ofUnit(UnitStates x, int unit, int[] row, int first) {
        int count = first;
        for (int t : new int[] {0, 40, 99_999}) {
            for (int what = 0; what <= 9; what++) {
                row[count++] = x.at(unit, t, what);
            }
            row[count++] = x.place(unit, t);
            row[count++] = x.age(unit, t);
            row[count++] = x.expected(unit, t);
        }
        return count;
    }

    /** The numbers that are given out next, and what they bring about. */
    private static int ofNext(UnitStates x, int[] row, int count) {
        row[count] = x.told(6) < 30 ? x.unit(4, 4) : REFUSED;
        boolean room = x.told(6) > 0 && x.told(5) < 200;
        row[count + 1] = room ? x.message(0, 40, 12, 8) : REFUSED;
        row[count + 2] = x.at(0, 99_999, 4);
        return count + 3;
    }
}
