/** Promises 7 (load), 8 (store), 9 (copy) and 10 (narrow). */
public final class AccessTest {
    public static void main(String[] args) {
        storeAndLoadTakeTags();
        loadAndStoreAreTested();
        loadHasARangeOfOffsets();
        storeHasNoRangeOfOffsets();
        copyTakesTags();
        copyReadsAllFirst();
        copyIsTestedInOrder();
        copyOfNothingTestsNothing();
        copyHasARange();
        narrowShrinksBounds();
        narrowIsTested();
        narrowHasRanges();
        Check.end();
    }

    private static void storeAndLoadTakeTags() {
        SafeMemory m = new SafeMemory();
        m.alloc(0, 3);
        m.alloc(1, 5);
        m.add(1, 2);
        m.set(2, 77);
        Check.due("store a number", 0, m.store(0, 0, 2));
        Check.due("store a pointer", 77, m.store(0, 0, 1));
        Check.due("store at the last word", 0, m.store(0, 2, 2));
        Check.due("load the last word", 77, m.load(3, 0, 2));
        Check.registerIs("a number loaded", m, 3, 77, 0, 0, 0, 0, 0);
        Check.due("load a pointer", 5, m.load(3, 0, 0));
        Check.registerIs("a pointer loaded", m, 3, 5, 1, 1, 5, 2, 2);
        Check.due("load the word between", 0, m.load(3, 0, 1));
        Check.due("store a number over a pointer", 5, m.store(0, 0, 2));
        m.load(3, 0, 0);
        Check.registerIs("a number over a pointer", m, 3, 77, 0, 0, 0, 0, 0);
        m.store(0, 1, 0);
        Check.due("load over the pointer itself", 0, m.load(0, 0, 1));
        Check.registerIs("load over the pointer itself", m, 0, 0, 1, 1, 3, 0, 1);
        Check.due("load a number over the pointer", 77, m.load(0, 0, 2));
        Check.registerIs("load a number over the pointer", m, 0, 77, 0, 0, 0, 0, 0);
    }

    private static void loadAndStoreAreTested() {
        SafeMemory m = new SafeMemory();
        m.alloc(0, 4);
        m.alloc(1, 4);
        m.set(2, 5);
        Check.tested("load by a number", m, Check.UNTAGGED, () -> m.load(3, 2, 0));
        Check.tested("store by a number", m, Check.UNTAGGED, () -> m.store(2, 0, 1));
        Check.tested("load below", m, Check.OUTSIDE, () -> m.load(3, 1, -1));
        Check.tested("load above", m, Check.OUTSIDE, () -> m.load(3, 1, 4));
        Check.tested("store below", m, Check.OUTSIDE, () -> m.store(1, -1, 2));
        Check.tested("store above", m, Check.OUTSIDE, () -> m.store(1, 4, 2));
        m.add(1, 4);
        Check.tested("load at the bound", m, Check.OUTSIDE, () -> m.load(3, 1, 0));
        Check.due("load back in the bounds", 0, m.load(3, 1, -1));
        m.add(1, -1000);
        Check.due("store from far below", 0, m.store(1, 998, 2));
        Check.due("load from far below", 5, m.load(3, 1, 998));
        m.add(1, 996);
        m.free(1);
        Check.tested("load of what is over", m, Check.STATE, () -> m.load(3, 1, 0));
        Check.tested("store to what is over", m, Check.STATE, () -> m.store(1, 0, 2));
        Check.tested("over comes before bounds", m, Check.STATE, () -> m.load(3, 1, 9));
        m.alloc(4, 4);
        Check.tested("over though the words are in use", m, Check.STATE, () -> m.load(3, 1, 0));
        Check.due("nothing was stored", 0, m.load(3, 4, 0));
    }

    private static void loadHasARangeOfOffsets() {
        SafeMemory m = new SafeMemory();
        Check.refused("offset 1001", m, Check.ARGUMENT, () -> m.load(1, 0, 1001));
        Check.refused("offset -1001", m, Check.ARGUMENT, () -> m.load(1, 0, -1001));
        Check.tested("offset 1000", m, Check.UNTAGGED, () -> m.load(1, 0, 1000));
        Check.tested("offset -1000", m, Check.UNTAGGED, () -> m.load(1, 0, -1000));
        m.alloc(0, 2);
        m.add(0, -1000);
        Check.due("offset 1000 in bounds", 0, m.load(1, 0, 1000));
        Check.refused("offset 1001 in bounds", m, Check.ARGUMENT, () -> m.load(1, 0, 1001));
    }

    /** The document names a range for the offsets of load and narrow, and none here. */
    private static void storeHasNoRangeOfOffsets() {
        SafeMemory m = new SafeMemory();
        m.set(1, 6);
        Check.tested("store by a number", m, Check.UNTAGGED, () -> m.store(0, 1001, 1));
        m.alloc(0, 2);
        for (int offset : new int[] {1001, -1001, Integer.MAX_VALUE, Integer.MIN_VALUE}) {
            Check.tested("store with " + offset, m, Check.OUTSIDE, () -> m.store(0, offset, 1));
        }
        m.add(0, -1000);
        Check.due("store with 1001 in bounds", 0, m.store(0, 1001, 1));
        Check.due("load what was stored", 6, m.add(0, 1000) + m.load(2, 0, 1));
    }

    private static void copyTakesTags() {
        SafeMemory m = new SafeMemory();
        m.alloc(0, 4);
        m.alloc(1, 4);
        m.set(2, 31);
        m.store(0, 1, 2);
        m.store(0, 2, 1);
        m.store(1, 3, 2);
        Check.due("copy", 3, m.copy(1, 0, 3));
        Check.due("copied 0", 0, m.load(3, 1, 0));
        Check.due("copied 1", 31, m.load(3, 1, 1));
        m.load(3, 1, 2);
        Check.registerIs("copied 2", m, 3, 4, 1, 1, 4, 0, 2);
        Check.due("not copied", 31, m.load(3, 1, 3));
        Check.due("the source stays", 31, m.load(3, 0, 1));
        Check.due("pointers in words", 2, m.count(8));
        Check.registerIs("to stays", m, 1, 4, 1, 1, 4, 0, 2);
        Check.registerIs("from stays", m, 0, 0, 1, 1, 4, 0, 1);
    }

    private static void copyReadsAllFirst() {
        for (int step : new int[] {1, 3, -1, -3}) {
            SafeMemory m = new SafeMemory();
            m.alloc(0, 24);
            for (int offset = 0; offset < 24; offset++) {
                m.set(1, 100 + offset);
                m.store(0, offset, offset == 12 ? 0 : 1);
            }
            m.move(2, 0);
            m.add(2, 5);
            m.move(3, 2);
            m.add(3, step);
            Check.due("copy by " + step, 15, m.copy(3, 2, 15));
            for (int offset = 0; offset < 24; offset++) {
                boolean copied = offset >= 5 + step && offset < 20 + step;
                int source = copied ? offset - step : offset;
                m.load(4, 0, offset);
                Check.due("by " + step + " at " + offset, source == 12 ? 0 : 100 + source, m.register(4, 0));
                Check.due("by " + step + " tags at " + offset, source == 12 ? 1 : 0, m.register(4, 1));
            }
        }
    }

    private static void copyIsTestedInOrder() {
        SafeMemory m = new SafeMemory();
        m.alloc(0, 4);
        m.alloc(1, 6);
        m.alloc(2, 4);
        m.move(3, 2);
        m.free(3);
        Check.tested("from has no tags", m, Check.UNTAGGED, () -> m.copy(3, 7, 1));
        Check.tested("to has no tags", m, Check.UNTAGGED, () -> m.copy(7, 0, 1));
        Check.tested("from is over", m, Check.STATE, () -> m.copy(7, 3, 1));
        Check.tested("to is over", m, Check.STATE, () -> m.copy(3, 0, 1));
        Check.tested("from is too short", m, Check.OUTSIDE, () -> m.copy(7, 0, 5));
        Check.tested("to is too short", m, Check.OUTSIDE, () -> m.copy(0, 1, 5));
        Check.tested("from too short before to over", m, Check.OUTSIDE, () -> m.copy(3, 0, 5));
        Check.tested("one test is counted of two", m, Check.OUTSIDE, () -> m.copy(0, 1, 7));
        m.add(0, -1);
        Check.tested("from begins below", m, Check.OUTSIDE, () -> m.copy(1, 0, 3));
        Check.tested("to begins below", m, Check.OUTSIDE, () -> m.copy(0, 1, 3));
        Check.tested("from begins below and goes over", m, Check.OUTSIDE, () -> m.copy(1, 0, 6));
        m.add(0, 1);
        Check.due("all of the shorter", 4, m.copy(0, 1, 4));
    }

    private static void copyOfNothingTestsNothing() {
        SafeMemory m = new SafeMemory();
        Check.due("numbers", 0, m.copy(0, 1, 0));
        m.alloc(0, 1);
        m.free(0);
        Check.due("over", 0, m.copy(0, 0, 0));
        m.alloc(1, 1);
        m.add(1, 500);
        Check.due("outside", 0, m.copy(1, 1, 0));
        for (int what = 5; what < 8; what++) {
            Check.due("no test threw", 0, m.count(what));
        }
    }

    private static void copyHasARange() {
        SafeMemory m = new SafeMemory();
        for (int n : new int[] {-1, 25, Integer.MIN_VALUE, Integer.MAX_VALUE}) {
            Check.refused("copy of " + n, m, Check.ARGUMENT, () -> m.copy(0, 1, n));
        }
        m.alloc(0, 24);
        Check.due("copy of 24", 24, m.copy(0, 0, 24));
        Check.refused("copy of 25", m, Check.ARGUMENT, () -> m.copy(0, 0, 25));
    }

    private static void narrowShrinksBounds() {
        SafeMemory m = new SafeMemory();
        m.alloc(0, 2);
        m.alloc(1, 24);
        m.move(2, 1);
        Check.due("narrow to all", 2, m.narrow(1, 0, 24));
        Check.registerIs("narrow to all", m, 1, 2, 1, 1, 24, 0, 2);
        m.add(1, 10);
        Check.due("narrow with an offset below", 7, m.narrow(1, -5, 6));
        Check.registerIs("narrow with an offset below", m, 1, 7, 1, 1, 6, 0, 2);
        Check.registerIs("its copy stays", m, 2, 2, 1, 1, 24, 0, 2);
        Check.due("narrow to the last", 12, m.narrow(1, 5, 1));
        Check.registerIs("narrow to the last", m, 1, 12, 1, 1, 1, 0, 2);
        Check.tested("load below the narrow bounds", m, Check.OUTSIDE, () -> m.load(3, 1, -1));
        Check.tested("load above the narrow bounds", m, Check.OUTSIDE, () -> m.load(3, 1, 1));
        Check.tested("bounds never grow", m, Check.OUTSIDE, () -> m.narrow(1, 0, 2));
        m.add(1, -1000);
        Check.due("narrow from far below", 12, m.narrow(1, 1000, 1));
    }

    private static void narrowIsTested() {
        SafeMemory m = new SafeMemory();
        Check.tested("narrow a number", m, Check.UNTAGGED, () -> m.narrow(0, 0, 1));
        m.alloc(0, 4);
        Check.tested("first below", m, Check.OUTSIDE, () -> m.narrow(0, -1, 2));
        Check.tested("last above", m, Check.OUTSIDE, () -> m.narrow(0, 2, 3));
        Check.tested("first above", m, Check.OUTSIDE, () -> m.narrow(0, 4, 1));
        Check.tested("both outside", m, Check.OUTSIDE, () -> m.narrow(0, -1, 6));
        m.free(0);
        Check.tested("narrow what is over", m, Check.STATE, () -> m.narrow(0, 0, 1));
        Check.tested("over comes before bounds", m, Check.STATE, () -> m.narrow(0, 9, 1));
    }

    private static void narrowHasRanges() {
        SafeMemory m = new SafeMemory();
        for (int n : new int[] {0, -1, 25, Integer.MIN_VALUE, Integer.MAX_VALUE}) {
            Check.refused("narrow to " + n, m, Check.ARGUMENT, () -> m.narrow(0, 0, n));
        }
        for (int offset : new int[] {-1001, 1001, Integer.MIN_VALUE, Integer.MAX_VALUE}) {
            Check.refused("narrow by " + offset, m, Check.ARGUMENT, () -> m.narrow(0, offset, 1));
        }
        Check.tested("narrow by 1000", m, Check.UNTAGGED, () -> m.narrow(0, 1000, 24));
        Check.tested("narrow by -1000", m, Check.UNTAGGED, () -> m.narrow(0, -1000, 1));
    }
}
