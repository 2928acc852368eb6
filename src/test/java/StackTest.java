/** Promises 11 (enter), 12 (local), 13 (point) and 14 (leave). */
public final class StackTest {
    public static void main(String[] args) {
        enterOpensUpToSix();
        enterNeedsALock();
        localGoesDown();
        localIsRefused();
        localNeedsFreeWords();
        localFillsAllWords();
        localWordsAreClear();
        pointFindsLocals();
        pointIsRefused();
        leaveEndsTheFrame();
        leaveTakesTheLastFrameAlone();
        Check.end();
    }

    private static void enterOpensUpToSix() {
        SafeMemory m = new SafeMemory();
        for (int frame = 1; frame <= 6; frame++) {
            Check.due("enter", frame, m.enter());
        }
        Check.refused("enter a seventh", m, Check.STATE, m::enter);
        Check.due("frames", 6, m.count(2));
        Check.due("locks", 6, m.count(3));
        Check.due("keys", 6, m.count(4));
        Check.due("free words", 96, m.count(1));
        Check.due("leave", 0, m.leave());
        Check.due("enter again", 6, m.enter());
        Check.due("keys again", 7, m.count(4));
    }

    private static void enterNeedsALock() {
        SafeMemory m = new SafeMemory();
        for (int i = 0; i < 39; i++) {
            m.alloc(i % 8, 1);
        }
        Check.due("enter with the last lock", 1, m.enter());
        Check.refused("enter without a lock", m, Check.STATE, m::enter);
        m.leave();
        Check.due("enter with the lock let go", 1, m.enter());
        Check.due("keys", 41, m.count(4));
    }

    private static void localGoesDown() {
        SafeMemory m = new SafeMemory();
        m.alloc(7, 1);
        m.enter();
        Check.due("first local", 88, m.local(0, 8));
        Check.registerIs("first local", m, 0, 88, 1, 1, 8, 0, 2);
        Check.due("second local", 87, m.local(1, 1));
        Check.registerIs("second local", m, 1, 87, 1, 1, 1, 0, 2);
        m.enter();
        Check.due("local of the second frame", 84, m.local(2, 3));
        Check.registerIs("local of the second frame", m, 2, 84, 1, 1, 3, 0, 3);
        Check.due("free words", 83, m.count(1));
        Check.due("locks", 3, m.count(3));
        Check.due("keys", 3, m.count(4));
        Check.tested("a local's neighbour above", m, Check.OUTSIDE, () -> m.load(3, 1, 1));
        Check.tested("a local's neighbour below", m, Check.OUTSIDE, () -> m.load(3, 0, -1));
    }

    private static void localIsRefused() {
        SafeMemory m = new SafeMemory();
        Check.refused("no frame", m, Check.STATE, () -> m.local(0, 1));
        for (int n : new int[] {0, -1, 9, Integer.MIN_VALUE, Integer.MAX_VALUE}) {
            Check.refused("local of " + n + " without a frame", m, Check.ARGUMENT, () -> m.local(0, n));
        }
        m.enter();
        for (int n : new int[] {0, 9}) {
            Check.refused("local of " + n, m, Check.ARGUMENT, () -> m.local(0, n));
        }
    }

    private static void localNeedsFreeWords() {
        SafeMemory m = new SafeMemory();
        for (int r = 0; r < 3; r++) {
            m.alloc(r, 24);
        }
        m.alloc(3, 20);
        m.enter();
        Check.refused("five of four words", m, Check.STATE, () -> m.local(4, 5));
        Check.due("four of four words", 92, m.local(4, 4));
        Check.refused("no word is left", m, Check.STATE, () -> m.local(4, 1));
        m.free(0);
        Check.refused("words are free, but not below the top", m, Check.STATE, () -> m.local(4, 1));
        m.free(3);
        Check.due("the block above is freed", 84, m.local(4, 8));
    }

    private static void localFillsAllWords() {
        SafeMemory m = new SafeMemory();
        m.enter();
        for (int i = 0; i < 88; i++) {
            Check.due("local " + i, 95 - i, m.local(0, 1));
        }
        m.enter();
        Check.due("the lowest word", 0, m.local(1, 8));
        Check.refused("below address 0", m, Check.STATE, () -> m.local(2, 1));
        Check.refused("alloc below the stack", m, Check.STATE, () -> m.alloc(2, 1));
        Check.due("no free words", 0, m.count(1));
        Check.due("leave", 8, m.leave());
        m.enter();
        m.local(3, 7);
        Check.refused("too few words above address 0", m, Check.STATE, () -> m.local(3, 2));
    }

    private static void localWordsAreClear() {
        SafeMemory m = new SafeMemory();
        m.enter();
        m.local(0, 2);
        m.set(1, 9);
        m.store(0, 0, 0);
        m.store(0, 1, 1);
        m.leave();
        m.enter();
        m.local(2, 2);
        for (int offset = 0; offset < 2; offset++) {
            m.load(3, 2, offset);
            Check.registerIs("a new local's word", m, 3, 0, 0, 0, 0, 0, 0);
        }
        m.store(2, 0, 1);
        m.local(3, 2);
        Check.due("an older local's word stays", 9, m.load(4, 2, 0));
    }

    private static void pointFindsLocals() {
        SafeMemory m = new SafeMemory();
        m.enter();
        m.local(0, 2);
        m.local(0, 5);
        m.enter();
        m.local(0, 1);
        m.local(0, 4);
        m.local(0, 3);
        m.narrow(0, 1, 1);
        Check.due("point 0", 88, m.point(1, 0));
        Check.registerIs("point 0", m, 1, 88, 1, 1, 1, 0, 2);
        Check.due("point 1", 84, m.point(1, 1));
        Check.registerIs("point 1", m, 1, 84, 1, 1, 4, 0, 2);
        Check.due("point 2", 81, m.point(1, 2));
        Check.registerIs("point 2", m, 1, 81, 1, 1, 3, 0, 2);
        m.leave();
        Check.due("point 0 of the first frame", 94, m.point(1, 0));
        Check.due("point 1 of the first frame", 89, m.point(1, 1));
        Check.registerIs("point 1 of the first frame", m, 1, 89, 1, 1, 5, 0, 1);
    }

    private static void pointIsRefused() {
        SafeMemory m = new SafeMemory();
        Check.refused("no frame", m, Check.STATE, () -> m.point(0, 0));
        Check.refused("no frame, no such local", m, Check.STATE, () -> m.point(0, -1));
        m.enter();
        Check.refused("no locals", m, Check.OUTSIDE, () -> m.point(0, 0));
        m.local(0, 1);
        m.local(0, 1);
        for (int number : new int[] {2, -1, Integer.MIN_VALUE, Integer.MAX_VALUE}) {
            Check.refused("point " + number, m, Check.OUTSIDE, () -> m.point(1, number));
        }
        m.enter();
        Check.refused("a local of an older frame", m, Check.OUTSIDE, () -> m.point(1, 0));
        Check.refused("a local below the first", m, Check.OUTSIDE, () -> m.point(1, -1));
        m.local(0, 1);
        m.leave();
        Check.refused("a local of the frame left", m, Check.OUTSIDE, () -> m.point(1, 2));
        m.leave();
        m.enter();
        Check.refused("a local of a closed frame", m, Check.OUTSIDE, () -> m.point(1, 0));
    }

    private static void leaveEndsTheFrame() {
        SafeMemory m = new SafeMemory();
        Check.refused("leave without a frame", m, Check.STATE, m::leave);
        m.enter();
        m.local(0, 3);
        m.local(1, 4);
        Check.due("leave", 7, m.leave());
        Check.registerIs("its first local is over", m, 0, 93, 1, 0, 3, 0, 1);
        Check.registerIs("its second local is over", m, 1, 89, 1, 0, 4, 0, 1);
        Check.tested("load of a local that is over", m, Check.STATE, () -> m.load(2, 0, 0));
        Check.due("frames", 0, m.count(2));
        Check.due("locks", 0, m.count(3));
        Check.due("free words", 96, m.count(1));
        m.enter();
        m.local(2, 3);
        Check.registerIs("over though a frame is there again", m, 0, 93, 1, 0, 3, 0, 1);
        m.leave();
        Check.refused("leave once more", m, Check.STATE, m::leave);
    }

    private static void leaveTakesTheLastFrameAlone() {
        SafeMemory m = new SafeMemory();
        m.enter();
        m.local(0, 3);
        m.enter();
        m.local(1, 2);
        m.alloc(2, 4);
        m.store(0, 1, 1);
        Check.due("leave the second", 2, m.leave());
        Check.due("a frame's lock is let go", 2, m.count(3));
        Check.registerIs("the first frame's local", m, 0, 93, 1, 1, 3, 0, 1);
        Check.registerIs("the second frame's local", m, 1, 91, 1, 0, 2, 0, 2);
        Check.registerIs("the block", m, 2, 0, 1, 1, 4, 0, 3);
        Check.due("the word stays", 91, m.load(3, 0, 1));
        Check.registerIs("a pointer in memory is over", m, 3, 91, 1, 0, 2, 0, 2);
        Check.due("leave the first", 3, m.leave());
    }
}
