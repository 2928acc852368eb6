/** Promises 4 (alloc) and 5 (free). */
public final class HeapTest {
    public static void main(String[] args) {
        allocMakesAPointer();
        allocHasARange();
        allocTakesTheLeastAddress();
        allocStopsAtTheTop();
        allocNeedsALock();
        wordsComeIntoUseClear();
        freeGivesBack();
        freeIsTested();
        freeWantsTheFirstAddressOfItsOwnBlock();
        freeDoesNotMindNarrowBounds();
        keysAreNeverGivenAgain();
        Check.end();
    }

    private static void allocMakesAPointer() {
        SafeMemory m = new SafeMemory();
        Check.due("alloc", 0, m.alloc(5, 24));
        Check.registerIs("alloc", m, 5, 0, 1, 1, 24, 0, 1);
        Check.due("alloc next", 24, m.alloc(5, 1));
        Check.registerIs("alloc next", m, 5, 24, 1, 1, 1, 0, 2);
        Check.due("blocks", 2, m.count(0));
        Check.due("free words", 71, m.count(1));
        Check.due("locks", 2, m.count(3));
        Check.due("keys", 2, m.count(4));
    }

    private static void allocHasARange() {
        SafeMemory m = new SafeMemory();
        for (int n : new int[] {0, -1, 25, Integer.MIN_VALUE, Integer.MAX_VALUE}) {
            Check.refused("alloc of " + n, m, Check.ARGUMENT, () -> m.alloc(0, n));
        }
        fillHeap(m);
        Check.refused("alloc of 25 in a full heap", m, Check.ARGUMENT, () -> m.alloc(0, 25));
        Check.refused("alloc in a full heap", m, Check.STATE, () -> m.alloc(0, 1));
    }

    private static void fillHeap(SafeMemory m) {
        for (int i = 0; i < 4; i++) {
            m.alloc(i, 24);
        }
    }

    private static void allocTakesTheLeastAddress() {
        SafeMemory m = new SafeMemory();
        for (int r = 0; r < 5; r++) {
            m.alloc(r, 4);
        }
        m.free(1);
        m.free(3);
        Check.due("too big for the gaps", 20, m.alloc(5, 5));
        Check.due("fits the first gap", 4, m.alloc(5, 3));
        Check.due("fits its rest", 7, m.alloc(5, 1));
        Check.due("fits the second gap", 12, m.alloc(5, 4));
        Check.due("after all", 25, m.alloc(5, 1));
        m.free(0);
        m.alloc(6, 2);
        m.alloc(7, 2);
        m.free(6);
        m.free(7);
        Check.due("gaps side by side are one", 0, m.alloc(5, 4));
    }

    private static void allocStopsAtTheTop() {
        SafeMemory m = new SafeMemory();
        m.enter();
        m.local(7, 8);
        for (int i = 0; i < 3; i++) {
            m.alloc(i, 24);
        }
        Check.due("free words under the top", 16, m.count(1));
        Check.refused("alloc over the top", m, Check.STATE, () -> m.alloc(4, 17));
        Check.due("alloc up to the top", 72, m.alloc(4, 16));
        Check.due("no free words", 0, m.count(1));
        m.leave();
        Check.due("alloc where the frame was", 88, m.alloc(4, 8));
    }

    private static void allocNeedsALock() {
        SafeMemory m = new SafeMemory();
        for (int i = 0; i < 40; i++) {
            Check.due("alloc " + i, i, m.alloc(i % 8, 1));
        }
        Check.due("locks in use", 40, m.count(3));
        Check.refused("alloc without a lock", m, Check.STATE, () -> m.alloc(0, 1));
        Check.refused("enter without a lock", m, Check.STATE, m::enter);
        Check.due("keys without a lock", 40, m.count(4));
        m.free(3);
        Check.due("enter with the lock let go", 1, m.enter());
        Check.refused("alloc without a lock again", m, Check.STATE, () -> m.alloc(0, 1));
        m.leave();
        Check.due("alloc with the lock let go", 35, m.alloc(0, 1));
        Check.registerIs("alloc with the lock let go", m, 0, 35, 1, 1, 1, 0, 42);
        Check.registerIs("the lock's former pointer", m, 3, 35, 1, 0, 1, 0, 36);
        Check.registerIs("another lock's pointer", m, 4, 36, 1, 1, 1, 0, 37);
    }

    private static void wordsComeIntoUseClear() {
        SafeMemory m = new SafeMemory();
        m.alloc(0, 3);
        m.set(1, 8);
        m.store(0, 0, 0);
        m.store(0, 1, 1);
        m.store(0, 2, 0);
        m.free(0);
        m.alloc(2, 3);
        for (int offset = 0; offset < 3; offset++) {
            m.load(3, 2, offset);
            Check.registerIs("a new word", m, 3, 0, 0, 0, 0, 0, 0);
        }
        Check.due("no pointers in new words", 0, m.count(8));
    }

    private static void freeGivesBack() {
        SafeMemory m = new SafeMemory();
        m.alloc(0, 5);
        m.alloc(1, 7);
        m.move(2, 1);
        Check.due("free", 7, m.free(2));
        Check.due("blocks", 1, m.count(0));
        Check.due("free words", 91, m.count(1));
        Check.due("locks", 1, m.count(3));
        Check.due("keys", 2, m.count(4));
        Check.registerIs("the pointer is over", m, 2, 5, 1, 0, 7, 0, 2);
        Check.registerIs("its copy is over", m, 1, 5, 1, 0, 7, 0, 2);
        Check.registerIs("the other is alive", m, 0, 0, 1, 1, 5, 0, 1);
    }

    private static void freeIsTested() {
        SafeMemory m = new SafeMemory();
        Check.tested("free of a number", m, Check.UNTAGGED, () -> m.free(0));
        m.alloc(0, 5);
        m.free(0);
        Check.tested("free again", m, Check.STATE, () -> m.free(0));
        m.alloc(1, 5);
        Check.tested("free by a pointer that is over", m, Check.STATE, () -> m.free(0));
        m.add(0, 1);
        Check.tested("free of what is over comes before bounds", m, Check.STATE, () -> m.free(0));
        m.enter();
        m.local(2, 1);
        Check.tested("free of a local", m, Check.OUTSIDE, () -> m.free(2));
        m.leave();
        Check.tested("free of a local that is over", m, Check.STATE, () -> m.free(2));
    }

    private static void freeWantsTheFirstAddressOfItsOwnBlock() {
        SafeMemory m = new SafeMemory();
        m.alloc(0, 4);
        m.alloc(1, 4);
        for (int k : new int[] {1, 3, 4, 5, 8, 95, 96, 1000, -1, -1000}) {
            m.add(0, k);
            Check.tested("free at " + k, m, Check.OUTSIDE, () -> m.free(0));
            m.add(0, -k);
        }
        m.enter();
        m.local(2, 2);
        m.add(2, -94);
        Check.tested("free of a block by a local's pointer", m, Check.OUTSIDE, () -> m.free(2));
        m.free(1);
        m.add(0, 4);
        Check.tested("free where a block was", m, Check.OUTSIDE, () -> m.free(0));
        m.add(0, -4);
        Check.due("free at the first address", 4, m.free(0));
    }

    private static void freeDoesNotMindNarrowBounds() {
        SafeMemory m = new SafeMemory();
        m.alloc(0, 4);
        m.move(1, 0);
        m.narrow(1, 2, 1);
        Check.tested("free at the narrow first", m, Check.OUTSIDE, () -> m.free(1));
        m.add(1, -2);
        Check.due("free out of its bounds", 4, m.free(1));
        m.alloc(0, 4);
        m.narrow(0, 0, 1);
        Check.due("free by narrow bounds", 4, m.free(0));
    }

    private static void keysAreNeverGivenAgain() {
        SafeMemory m = new SafeMemory();
        for (int key = 1; key <= 60; key++) {
            m.alloc(0, 1);
            Check.due("key", key, m.register(0, 5));
            m.move(1 + key % 7, 0);
            m.free(0);
        }
        m.alloc(0, 1);
        for (int r = 1; r < 8; r++) {
            Check.due("a former pointer stays over", 0, m.register(r, 2));
        }
    }
}
