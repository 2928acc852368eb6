import java.util.ArrayList;
import java.util.List;

/**
 * The document's terms: "a call that throws changes nothing else." Two objects are made alike, one of
 * them makes the call that throws, and then all that can be asked must be answered alike by both, but
 * for the count of the tests that threw.
 */
public final class RefusalTest {
    private static final int NOT_COUNTED = -1;

    private interface Calls {
        int make(SafeMemory m);
    }

    private interface Scene {
        SafeMemory make();
    }

    public static void main(String[] args) {
        wrongArgumentsChangeNothing();
        testsChangeNothing();
        freeChangesNothing();
        allocChangesNothing();
        enterChangesNothing();
        localChangesNothing();
        pointAndLeaveChangeNothing();
        Check.end();
    }

    /**
     * Register 0 points to a block at 0, 1 to one that is over, 2 is a number, 3 points into a block
     * at 4 with narrow bounds, 4 to a local of the first frame, 5 to one of the second, 6 outside of
     * its block at 0, and 7 is a number. The words hold all kinds.
     */
    private static SafeMemory rich() {
        SafeMemory m = new SafeMemory();
        m.alloc(0, 4);
        m.alloc(3, 6);
        m.alloc(1, 3);
        m.alloc(7, 2);
        m.enter();
        m.local(4, 3);
        m.enter();
        m.local(6, 2);
        m.local(5, 4);
        m.set(2, -3);
        m.store(0, 0, 3);
        m.store(0, 2, 2);
        m.store(3, 0, 1);
        m.store(3, 1, 2);
        m.store(3, 5, 5);
        m.store(4, 1, 0);
        m.store(5, 0, 2);
        m.store(5, 3, 1);
        m.free(1);
        m.narrow(3, 1, 4);
        m.add(3, 2);
        m.move(6, 0);
        m.add(6, 4);
        m.set(7, Integer.MIN_VALUE);
        return m;
    }

    private static void wrongArgumentsChangeNothing() {
        for (int bad : new int[] {-1, 8}) {
            wrongArgument("set", m -> m.set(bad, 5));
            wrongArgument("move to", m -> m.move(bad, 0));
            wrongArgument("move from", m -> m.move(2, bad));
            wrongArgument("alloc", m -> m.alloc(bad, 3));
            wrongArgument("free", m -> m.free(bad));
            wrongArgument("add", m -> m.add(bad, 3));
            wrongArgument("load", m -> m.load(bad, 0, 0));
            wrongArgument("load by", m -> m.load(2, bad, 0));
            wrongArgument("store by", m -> m.store(bad, 0, 0));
            wrongArgument("store", m -> m.store(0, 0, bad));
            wrongArgument("copy to", m -> m.copy(bad, 0, 2));
            wrongArgument("copy from", m -> m.copy(0, bad, 2));
            wrongArgument("narrow", m -> m.narrow(bad, 0, 1));
            wrongArgument("local", m -> m.local(bad, 1));
            wrongArgument("point", m -> m.point(bad, 0));
            wrongArgument("same", m -> m.same(0, bad));
            wrongArgument("register", m -> m.register(bad, 0));
        }
        wrongArgument("alloc of 0", m -> m.alloc(2, 0));
        wrongArgument("alloc of 25", m -> m.alloc(2, 25));
        wrongArgument("add 1001", m -> m.add(0, 1001));
        wrongArgument("add -1001", m -> m.add(0, -1001));
        wrongArgument("load with 1001", m -> m.load(2, 0, 1001));
        wrongArgument("copy of -1", m -> m.copy(0, 5, -1));
        wrongArgument("copy of 25", m -> m.copy(0, 5, 25));
        wrongArgument("narrow to 0", m -> m.narrow(0, 1, 0));
        wrongArgument("narrow to 25", m -> m.narrow(0, 1, 25));
        wrongArgument("narrow with 1001", m -> m.narrow(0, 1001, 1));
        wrongArgument("local of 0", m -> m.local(2, 0));
        wrongArgument("local of 9", m -> m.local(2, 9));
        wrongArgument("register what 6", m -> m.register(0, 6));
        wrongArgument("count 10", m -> m.count(10));
    }

    private static void testsChangeNothing() {
        tested("load", Check.UNTAGGED, m -> m.load(0, 2, 3));
        tested("load", Check.STATE, m -> m.load(0, 1, 0));
        tested("load", Check.OUTSIDE, m -> m.load(0, 6, 0));
        tested("load over itself", Check.OUTSIDE, m -> m.load(3, 3, 2));
        tested("store", Check.UNTAGGED, m -> m.store(2, 3, 7));
        tested("store", Check.STATE, m -> m.store(1, 0, 7));
        tested("store", Check.OUTSIDE, m -> m.store(3, -3, 7));
        tested("copy from", Check.UNTAGGED, m -> m.copy(0, 2, 1));
        tested("copy from", Check.STATE, m -> m.copy(0, 1, 1));
        tested("copy from", Check.OUTSIDE, m -> m.copy(5, 3, 3));
        tested("copy to", Check.UNTAGGED, m -> m.copy(2, 0, 1));
        tested("copy to", Check.STATE, m -> m.copy(1, 0, 1));
        tested("copy to", Check.OUTSIDE, m -> m.copy(3, 0, 3));
        tested("copy to, too short", Check.OUTSIDE, m -> m.copy(4, 5, 4));
        tested("narrow", Check.UNTAGGED, m -> m.narrow(2, 3, 1));
        tested("narrow", Check.STATE, m -> m.narrow(1, 0, 1));
        tested("narrow, the first", Check.OUTSIDE, m -> m.narrow(3, -3, 2));
        tested("narrow, the last", Check.OUTSIDE, m -> m.narrow(3, 1, 2));
    }

    private static void freeChangesNothing() {
        tested("free", Check.UNTAGGED, m -> m.free(2));
        tested("free", Check.STATE, m -> m.free(1));
        tested("free past the block", Check.OUTSIDE, m -> m.free(6));
        tested("free inside of the block", Check.OUTSIDE, m -> m.free(3));
        tested("free of a local", Check.OUTSIDE, m -> m.free(4));
    }

    private static void allocChangesNothing() {
        unchanged("alloc without room", Scenes::noRoom, NOT_COUNTED, Check.STATE, m -> m.alloc(5, 1));
        unchanged("alloc without room", Scenes::noRoom, NOT_COUNTED, Check.STATE, m -> m.alloc(0, 24));
        unchanged("alloc without a lock", Scenes::noLock, NOT_COUNTED, Check.STATE, m -> m.alloc(0, 1));
        unchanged("alloc without either", RefusalTest::noRoomNoLock, NOT_COUNTED, Check.STATE, m -> m.alloc(0, 24));
    }

    private static SafeMemory noRoomNoLock() {
        SafeMemory m = new SafeMemory();
        for (int i = 0; i < 40; i++) {
            m.alloc(i % 8, i < 16 ? 3 : 2);
        }
        return m;
    }

    private static void enterChangesNothing() {
        unchanged("a seventh frame", Scenes::sixFrames, NOT_COUNTED, Check.STATE, SafeMemory::enter);
        unchanged("a frame without a lock", Scenes::noLock, NOT_COUNTED, Check.STATE, SafeMemory::enter);
    }

    private static void localChangesNothing() {
        unchanged("no frame", Scenes::noRoom, NOT_COUNTED, Check.STATE, m -> m.local(4, 1));
        unchanged("no room", RefusalTest::noRoomInAFrame, NOT_COUNTED, Check.STATE, m -> m.local(0, 8));
        unchanged("no room", RefusalTest::noRoomInAFrame, NOT_COUNTED, Check.STATE, m -> m.local(7, 4));
    }

    /** A frame with a local of two words; below it three words are free, and then a block is. */
    private static SafeMemory noRoomInAFrame() {
        SafeMemory m = new SafeMemory();
        for (int i = 0; i < 7; i++) {
            m.alloc(i, 13);
        }
        m.enter();
        m.local(7, 2);
        m.store(6, 12, 7);
        m.store(7, 0, 6);
        return m;
    }

    private static void pointAndLeaveChangeNothing() {
        unchanged("point without a frame", Scenes::noRoom, NOT_COUNTED, Check.STATE, m -> m.point(0, 0));
        unchanged("point to no local", RefusalTest::rich, NOT_COUNTED, Check.OUTSIDE, m -> m.point(0, 2));
        unchanged("point to no local", RefusalTest::rich, NOT_COUNTED, Check.OUTSIDE, m -> m.point(0, -1));
        unchanged("leave without a frame", Scenes::noRoom, NOT_COUNTED, Check.STATE, SafeMemory::leave);
    }

    private static void tested(String what, Class<? extends RuntimeException> kind, Calls call) {
        int place = kind == Check.UNTAGGED ? 5 : kind == Check.STATE ? 6 : 7;
        unchanged(what + " " + kind.getSimpleName(), RefusalTest::rich, place, kind, call);
    }

    private static void wrongArgument(String what, Calls call) {
        unchanged(what, RefusalTest::rich, NOT_COUNTED, Check.ARGUMENT, call);
    }

    /** The count of number counted must be one more after the call. */
    private static void unchanged(String what, Scene scene, int counted,
            Class<? extends RuntimeException> kind, Calls call) {
        SafeMemory calm = scene.make();
        SafeMemory tried = scene.make();
        Check.throwsKind(what, kind, () -> call.make(tried));
        for (int i = 0; i < 10; i++) {
            int more = i == counted ? 1 : 0;
            Check.due(what + ", then count(" + i + ")", calm.count(i) + more, tried.count(i));
        }
        List<Integer> due = askAll(calm);
        List<Integer> got = askAll(tried);
        if (!due.equals(got)) {
            Check.fail(what + ": answers after it are " + got + ", due are " + due);
        }
    }

    /** Registers first, then words, then what the next calls do; some 300 calls at most. */
    private static List<Integer> askAll(SafeMemory m) {
        List<Integer> answers = new ArrayList<>();
        for (int r = 0; r < 8; r++) {
            for (int what = 0; what < 6; what++) {
                answers.add(m.register(r, what));
            }
        }
        for (int r = 0; r < 7; r++) {
            if (m.register(r, 2) == 1) {
                askWords(answers, m, r);
            }
        }
        answers.add(answerOf(() -> m.alloc(7, 2)));
        answers.add(m.register(7, 5));
        answers.add(answerOf(m::enter));
        answers.add(answerOf(() -> m.local(7, 3)));
        answers.add(m.register(7, 5));
        answers.add(answerOf(() -> m.point(7, 0)));
        for (int frame = 0; frame < 7; frame++) {
            answers.add(answerOf(m::leave));
        }
        answers.add(answerOf(() -> m.free(0)));
        answers.add(answerOf(() -> m.alloc(0, 1)));
        for (int i = 0; i < 5; i++) {
            answers.add(m.count(i));
        }
        return answers;
    }

    private static void askWords(List<Integer> answers, SafeMemory m, int pointer) {
        int first = -m.register(pointer, 4);
        int size = m.register(pointer, 3);
        for (int offset = first; offset < first + size; offset++) {
            answers.add(m.load(7, pointer, offset));
            answers.add(m.register(7, 3));
            answers.add(m.register(7, 5));
        }
    }

    private static int answerOf(Check.Call call) {
        try {
            return call.make();
        } catch (IllegalStateException thrown) {
            return -1000;
        } catch (RuntimeException thrown) {
            return -2000;
        }
    }
}
