/** Promise 17 (count). */
public final class CountTest {
    public static void main(String[] args) {
        countsFollowTheState();
        testsAreCountedByKind();
        otherThrowsAreNotCounted();
        pointersInWordsAreCounted();
        wrongNumbers();
        Check.end();
    }

    private static void countsAre(String what, SafeMemory m, int... due) {
        for (int i = 0; i < due.length; i++) {
            Check.due(what + ": count(" + i + ")", due[i], m.count(i));
        }
    }

    private static void countsFollowTheState() {
        SafeMemory m = new SafeMemory();
        m.alloc(0, 10);
        m.alloc(1, 5);
        countsAre("two blocks", m, 2, 81, 0, 2, 2, 0, 0, 0, 0, 0);
        m.enter();
        countsAre("a frame", m, 2, 81, 1, 3, 3, 0, 0, 0, 0, 0);
        m.local(2, 6);
        countsAre("a local", m, 2, 75, 1, 3, 3, 0, 0, 0, 0, 0);
        m.free(0);
        countsAre("a block freed", m, 1, 85, 1, 2, 3, 0, 0, 0, 0, 0);
        m.leave();
        countsAre("the frame left", m, 1, 91, 0, 1, 3, 0, 0, 0, 0, 0);
    }

    private static void testsAreCountedByKind() {
        SafeMemory m = new SafeMemory();
        m.alloc(0, 2);
        m.alloc(1, 2);
        m.free(1);
        Check.tested("untagged 1", m, Check.UNTAGGED, () -> m.load(3, 2, 0));
        Check.tested("untagged 2", m, Check.UNTAGGED, () -> m.free(2));
        Check.tested("untagged 3", m, Check.UNTAGGED, () -> m.narrow(2, 0, 1));
        Check.tested("over 1", m, Check.STATE, () -> m.store(1, 0, 0));
        Check.tested("over 2", m, Check.STATE, () -> m.free(1));
        Check.tested("outside", m, Check.OUTSIDE, () -> m.copy(0, 0, 3));
        countsAre("tests", m, 1, 94, 0, 1, 2, 3, 2, 1, 0, 0);
    }

    private static void otherThrowsAreNotCounted() {
        SafeMemory m = new SafeMemory();
        Check.refused("leave", m, Check.STATE, m::leave);
        Check.refused("local", m, Check.STATE, () -> m.local(0, 1));
        Check.refused("point", m, Check.STATE, () -> m.point(0, 0));
        m.enter();
        Check.refused("point outside", m, Check.OUTSIDE, () -> m.point(0, 0));
        Check.refused("load", m, Check.ARGUMENT, () -> m.load(0, 0, 1001));
        countsAre("no tests", m, 0, 96, 1, 1, 1, 0, 0, 0, 0, 0);
    }

    private static void pointersInWordsAreCounted() {
        SafeMemory m = new SafeMemory();
        m.alloc(0, 4);
        m.alloc(1, 4);
        m.enter();
        m.local(2, 3);
        m.store(0, 0, 0);
        m.store(0, 3, 1);
        m.store(1, 1, 2);
        m.store(2, 0, 1);
        m.set(3, 5);
        m.store(2, 2, 3);
        Check.due("pointers", 4, m.count(8));
        Check.due("alive", 4, m.count(9));
        m.free(1);
        Check.due("pointers but the freed one", 3, m.count(8));
        Check.due("alive but to the freed", 1, m.count(9));
        m.alloc(1, 4);
        Check.due("pointers after another block", 3, m.count(8));
        Check.due("alive after another block", 1, m.count(9));
        m.leave();
        Check.due("pointers without the frame", 2, m.count(8));
        Check.due("alive without the frame", 1, m.count(9));
        m.store(0, 3, 3);
        Check.due("pointers less one overwritten", 1, m.count(8));
        m.free(0);
        Check.due("no pointers", 0, m.count(8));
        Check.due("none alive", 0, m.count(9));
    }

    private static void wrongNumbers() {
        SafeMemory m = new SafeMemory();
        for (int what : new int[] {-1, 10, Integer.MIN_VALUE, Integer.MAX_VALUE}) {
            Check.refused("count(" + what + ")", m, Check.ARGUMENT, () -> m.count(what));
        }
    }
}
