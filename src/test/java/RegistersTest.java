/** Promises 1 (a new object), 2 (set), 3 (move), 6 (add), 15 (same) and 16 (register). */
public final class RegistersTest {
    public static void main(String[] args) {
        newObject();
        objectsAreApart();
        setMakesNumbers();
        moveTakesTags();
        addKeepsTags();
        addWrapsAndHasARange();
        sameComparesNumbers();
        registerTellsAll();
        wrongRegistersComeFirst();
        Check.end();
    }

    private static void newObject() {
        SafeMemory m = new SafeMemory();
        for (int r = 0; r < 8; r++) {
            Check.registerIs("new", m, r, 0, 0, 0, 0, 0, 0);
        }
        int[] counts = {0, 96, 0, 0, 0, 0, 0, 0, 0, 0};
        for (int what = 0; what < counts.length; what++) {
            Check.due("new: count(" + what + ")", counts[what], m.count(what));
        }
        Check.refused("new: leave", m, Check.STATE, m::leave);
        Check.due("new: first block", 0, m.alloc(0, 1));
        Check.due("new: first key", 1, m.register(0, 5));
    }

    private static void objectsAreApart() {
        SafeMemory one = new SafeMemory();
        one.alloc(0, 5);
        one.enter();
        SafeMemory other = new SafeMemory();
        Check.due("apart: blocks", 0, other.count(0));
        Check.due("apart: keys", 0, other.count(4));
        Check.due("apart: register", 0, other.register(0, 1));
    }

    private static void setMakesNumbers() {
        SafeMemory m = new SafeMemory();
        Check.due("set first", 0, m.set(3, 17));
        Check.due("set again", 17, m.set(3, Integer.MIN_VALUE));
        Check.due("set least", Integer.MIN_VALUE, m.set(3, Integer.MAX_VALUE));
        Check.due("set most", Integer.MAX_VALUE, m.register(3, 0));
        m.alloc(0, 2);
        m.alloc(1, 2);
        Check.due("set on a pointer", 2, m.set(1, 9));
        Check.registerIs("set on a pointer", m, 1, 9, 0, 0, 0, 0, 0);
        Check.registerIs("set leaves others", m, 0, 0, 1, 1, 2, 0, 1);
        Check.due("set frees nothing", 2, m.count(0));
    }

    private static void moveTakesTags() {
        SafeMemory m = new SafeMemory();
        m.alloc(0, 3);
        m.alloc(1, 4);
        m.add(1, 2);
        Check.due("move", 5, m.move(7, 1));
        Check.registerIs("move to", m, 7, 5, 1, 1, 4, 2, 2);
        Check.registerIs("move from", m, 1, 5, 1, 1, 4, 2, 2);
        Check.due("move onto itself", 5, m.move(1, 1));
        Check.registerIs("move onto itself", m, 1, 5, 1, 1, 4, 2, 2);
        m.set(2, -6);
        Check.due("move a number", -6, m.move(7, 2));
        Check.registerIs("move a number", m, 7, -6, 0, 0, 0, 0, 0);
        Check.due("moves give no key", 2, m.count(4));
    }

    private static void addKeepsTags() {
        SafeMemory m = new SafeMemory();
        m.alloc(0, 3);
        Check.due("add most", 1000, m.add(0, 1000));
        Check.registerIs("add most", m, 0, 1000, 1, 1, 3, 1000, 1);
        Check.due("add least", 0, m.add(0, -1000));
        Check.due("add none", 0, m.add(0, 0));
        Check.due("add below", -7, m.add(0, -7));
        Check.registerIs("add below", m, 0, -7, 1, 1, 3, -7, 1);
        m.add(0, 7);
        m.free(0);
        Check.due("add to what is over", 1, m.add(0, 1));
        Check.registerIs("add to what is over", m, 0, 1, 1, 0, 3, 1, 1);
    }

    private static void addWrapsAndHasARange() {
        SafeMemory m = new SafeMemory();
        m.set(1, Integer.MAX_VALUE);
        Check.due("add wraps up", Integer.MIN_VALUE, m.add(1, 1));
        Check.due("add wraps down", Integer.MAX_VALUE, m.add(1, -1));
        Check.registerIs("add to a number", m, 1, Integer.MAX_VALUE, 0, 0, 0, 0, 0);
        Check.refused("add 1001", m, Check.ARGUMENT, () -> m.add(1, 1001));
        Check.refused("add -1001", m, Check.ARGUMENT, () -> m.add(1, -1001));
    }

    private static void sameComparesNumbers() {
        SafeMemory m = new SafeMemory();
        Check.due("same zeroes", 1, m.same(0, 7));
        m.alloc(0, 3);
        Check.due("same, one a pointer", 1, m.same(0, 1));
        m.set(1, 1);
        Check.due("not the same", 0, m.same(0, 1));
        Check.due("same as itself", 1, m.same(1, 1));
        m.free(0);
        m.alloc(2, 3);
        Check.due("same, one over", 1, m.same(0, 2));
    }

    private static void registerTellsAll() {
        SafeMemory m = new SafeMemory();
        m.alloc(0, 6);
        m.alloc(1, 9);
        m.add(1, 4);
        Check.registerIs("alive", m, 1, 10, 1, 1, 9, 4, 2);
        m.add(1, -4);
        m.free(1);
        Check.registerIs("over", m, 1, 6, 1, 0, 9, 0, 2);
        m.set(2, 12);
        Check.registerIs("number", m, 2, 12, 0, 0, 0, 0, 0);
        Check.refused("register what 6", m, Check.ARGUMENT, () -> m.register(0, 6));
        Check.refused("register what -1", m, Check.ARGUMENT, () -> m.register(0, -1));
    }

    /** Everything else in these calls would throw something else or nothing. */
    private static void wrongRegistersComeFirst() {
        for (int bad : new int[] {-1, 8, Integer.MIN_VALUE, Integer.MAX_VALUE}) {
            SafeMemory m = new SafeMemory();
            m.alloc(1, 2);
            Check.refused("set", m, Check.ARGUMENT, () -> m.set(bad, 1));
            Check.refused("move to", m, Check.ARGUMENT, () -> m.move(bad, 0));
            Check.refused("move from", m, Check.ARGUMENT, () -> m.move(0, bad));
            Check.refused("alloc", m, Check.ARGUMENT, () -> m.alloc(bad, 1));
            Check.refused("free", m, Check.ARGUMENT, () -> m.free(bad));
            Check.refused("add", m, Check.ARGUMENT, () -> m.add(bad, 1));
            Check.refused("load", m, Check.ARGUMENT, () -> m.load(bad, 0, 0));
            Check.refused("load by", m, Check.ARGUMENT, () -> m.load(0, bad, 0));
            Check.refused("store by", m, Check.ARGUMENT, () -> m.store(bad, 0, 0));
            Check.refused("store", m, Check.ARGUMENT, () -> m.store(0, 0, bad));
            Check.refused("copy to", m, Check.ARGUMENT, () -> m.copy(bad, 0, 1));
            Check.refused("copy from", m, Check.ARGUMENT, () -> m.copy(0, bad, 1));
            Check.refused("copy nothing to", m, Check.ARGUMENT, () -> m.copy(bad, 1, 0));
            Check.refused("copy nothing from", m, Check.ARGUMENT, () -> m.copy(1, bad, 0));
            Check.refused("narrow", m, Check.ARGUMENT, () -> m.narrow(bad, 0, 1));
            Check.refused("local", m, Check.ARGUMENT, () -> m.local(bad, 1));
            Check.refused("point", m, Check.ARGUMENT, () -> m.point(bad, 0));
            Check.refused("same first", m, Check.ARGUMENT, () -> m.same(bad, 0));
            Check.refused("same second", m, Check.ARGUMENT, () -> m.same(0, bad));
            Check.refused("register", m, Check.ARGUMENT, () -> m.register(bad, 0));
        }
    }
}
