/** Long runs of made-up calls, the same ones every time, on SafeMemory and on the plain Model. */
public final class ModelTest {
    private static final int RUNS = 600;
    private static final int CALLS = 512;
    private static final String[] NAMES = {"set", "move", "alloc", "free", "add", "load", "store", "copy",
        "narrow", "enter", "local", "point", "leave", "same", "register", "count"};
    // How often each call is made: many of all kinds, many small blocks, many frames.
    private static final int[][] WEIGHTS = {
        {3, 4, 10, 6, 6, 9, 10, 8, 5, 4, 6, 4, 3, 2, 12, 8},
        {1, 2, 40, 4, 2, 4, 8, 3, 2, 5, 5, 1, 3, 1, 10, 9},
        {2, 2, 4, 3, 4, 6, 10, 6, 4, 12, 20, 8, 8, 1, 6, 4},
    };

    private long state;

    private ModelTest(int seed) {
        state = seed * 7919L + 12345;
    }

    public static void main(String[] args) {
        for (int run = 0; run < RUNS; run++) {
            new ModelTest(run).compare(run);
        }
        Check.end();
    }

    private void compare(int run) {
        SafeMemory memory = new SafeMemory();
        Model model = new Model();
        int kind = run % WEIGHTS.length;
        StringBuilder told = new StringBuilder();
        for (int call = 0; call < CALLS; call++) {
            String name = NAMES[pickName(WEIGHTS[kind])];
            int[] a = arguments(name, kind);
            String want = answer(() -> model.call(name, a[0], a[1], a[2]));
            String got = answer(() -> call(memory, name, a[0], a[1], a[2]));
            told.append(name).append(' ').append(a[0]).append(' ').append(a[1]).append(' ').append(a[2])
                .append(" -> ").append(got).append('\n');
            if (!want.equals(got)) {
                Check.fail("run " + run + ":\n" + told + "due is " + want);
                return;
            }
        }
    }

    private static String answer(Check.Call call) {
        try {
            return Integer.toString(call.make());
        } catch (RuntimeException thrown) {
            return thrown.getClass().getSimpleName();
        }
    }

    private static int call(SafeMemory m, String name, int a, int b, int c) {
        switch (name) {
            case "set": return m.set(a, b);
            case "move": return m.move(a, b);
            case "alloc": return m.alloc(a, b);
            case "free": return m.free(a);
            case "add": return m.add(a, b);
            case "load": return m.load(a, b, c);
            case "store": return m.store(a, b, c);
            case "copy": return m.copy(a, b, c);
            case "narrow": return m.narrow(a, b, c);
            case "enter": return m.enter();
            case "local": return m.local(a, b);
            case "point": return m.point(a, b);
            case "leave": return m.leave();
            case "same": return m.same(a, b);
            case "register": return m.register(a, b);
            default: return m.count(a);
        }
    }

    private int[] arguments(String name, int kind) {
        int a = anyRegister();
        switch (name) {
            case "set": return new int[] {a, pick(4) == 0 ? anyInt() : pick(96), 0};
            case "alloc": return new int[] {a, kind == 1 ? edged(1, 3) : edged(0, 25), 0};
            case "add": return new int[] {a, pick(12) == 0 ? edged(-1001, 1001) : edged(-5, 5), 0};
            case "load": return new int[] {a, anyRegister(), anyOffset()};
            case "store": return new int[] {a, anyOffset(), anyRegister()};
            case "copy": return new int[] {a, anyRegister(), pick(3) == 0 ? edged(-1, 25) : edged(0, 6)};
            case "narrow": return new int[] {a, anyOffset(), pick(4) == 0 ? edged(0, 25) : edged(1, 4)};
            case "local": return new int[] {a, edged(0, 9), 0};
            case "point": return new int[] {a, edged(-1, 5), 0};
            case "register": return new int[] {a, edged(-1, 6), 0};
            case "count": return new int[] {edged(-1, 10), 0, 0};
            default: return new int[] {a, anyRegister(), 0};
        }
    }

    private int anyRegister() {
        return pick(60) == 0 ? (pick(2) == 0 ? -1 : 8) : pick(8);
    }

    private int anyOffset() {
        int kind = pick(24);
        return kind == 0 ? edged(-1001, 1001) : kind == 1 ? anyInt() : kind < 10 ? 0 : edged(-4, 8);
    }

    private int edged(int least, int most) {
        int kind = pick(16);
        return kind == 0 ? least : kind == 1 ? most : least + pick(most - least + 1);
    }

    private int anyInt() {
        return pick(3) == 0 ? Integer.MAX_VALUE - pick(3) : pick(2) == 0 ? Integer.MIN_VALUE + pick(3) : (int) next();
    }

    private int pickName(int[] weights) {
        int sum = 0;
        for (int weight : weights) {
            sum += weight;
        }
        int left = pick(sum);
        int name = 0;
        while (left >= weights[name]) {
            left -= weights[name];
            name++;
        }
        return name;
    }

    private int pick(int n) {
        return (int) (next() % n);
    }

    private long next() {
        state = state * 6364136223846793005L + 1442695040888963407L;
        return state >>> 33;
    }
}
