import java.util.Random;

/** Whatever the arguments and however full the object: only what the face names is ever thrown. */
public final class AnyArgumentsTest {
    private static final int[] EDGES = {
        Integer.MIN_VALUE, -100_000, -1, 0, 1, 2, 3, 5, 9, 10, 15, 16, 19, 20, 29, 30, 199, 200, 255,
        256, 999, 1_000, 99_999, 100_000, 999_999, 1_000_000, Integer.MAX_VALUE
    };

    public static void main(String[] args) {
        Check check = new Check();
        for (int seed = 0; seed < 300; seed++) {
            run(check, new Random(seed), seed % 3 == 0 ? 30 : seed % 3);
        }
        check.end();
    }

    private static void run(Check check, Random random, int units) {
        UnitStates x = new UnitStates();
        for (int i = 0; i < units; i++) {
            x.unit(random.nextInt(10), random.nextInt(10));
        }
        for (int i = 0; i < 200 && units > 0; i++) {
            x.message(random.nextInt(units), random.nextInt(100), random.nextInt(11),
                    random.nextInt(10));
        }
        for (int i = 0; i < 280; i++) {
            int method = random.nextInt(10);
            int[] a = {any(random), any(random), any(random), any(random)};
            try {
                call(x, method, a);
            } catch (RuntimeException e) {
                // The exact class: the machine's own ones stand below these.
                if (e.getClass() != Check.UNKNOWN && e.getClass() != Check.RANGE
                        && e.getClass() != Check.NO_ROOM) {
                    check.complain("method " + method + " threw " + e);
                }
            }
        }
    }

    private static int any(Random random) {
        return random.nextInt(4) == 0 ? random.nextInt() : EDGES[random.nextInt(EDGES.length)];
    }

    private static int call(UnitStates x, int method, int[] a) {
        switch (method) {
            case 0: return x.unit(a[0], a[1]);
            case 1: return x.message(a[0], a[1], a[2], a[3]);
            case 2: return x.at(a[0], a[1], a[2]);
            case 3: return x.place(a[0], a[1]);
            case 4: return x.age(a[0], a[1]);
            case 5: return x.expected(a[0], a[1]);
            case 6: return x.wrong(a[0]);
            case 7: return x.told(a[0]);
            case 8: return x.many(a[0], a[1]);
            default: return x.arrived(a[0], a[1], a[2]);
        }
    }
}
