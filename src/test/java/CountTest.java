/** Promise 17 (count); the remark at each test quotes the words that it tests. */
public final class CountTest {
    public static void main(String[] args) {
        countsFollowTheState();
        blocksInUse();
        wordsFreeForBlocks();
        frames();
        locksInUse();
        keysGiven();
        testsOfEveryCall();
        otherThrowsAreNotTests();
        wordsThatArePointers();
        wordsThatArePointersAlive();
        allWordsArePointers();
        wordsNotInUseAreNotCounted();
        countChangesNothing();
        anotherNumber();
        Check.end();
    }

    private static void countsAre(String what, SafeMemory m, int... due) {
        for (int i = 0; i < due.length; i++) {
            Check.due(what + ": count(" + i + ")", due[i], m.count(i));
        }
    }

    /** Promise 17: "Blocks in use (0), words that are free for blocks (1), frames (2), locks in use (3), keys given (4)". */
    private static void countsFollowTheState() {
        SafeMemory m = new SafeMemory();
        countsAre("at first", m, 0, 96, 0, 0, 0, 0, 0, 0, 0, 0);
        m.alloc(0, 10);
        m.alloc(1, 5);
        countsAre("two blocks", m, 2, 81, 0, 2, 2, 0, 0, 0, 0, 0);
        m.enter();
        countsAre("a frame", m, 2, 81, 1, 3, 3, 0, 0, 0, 0, 0);
        m.local(2, 6);
        countsAre("a local", m, 2, 75, 1, 3, 3, 0, 0, 0, 0, 0);
        m.free(0);
        countsAre("a block freed", m, 1, 85, 1, 2, 3, 0, 0, 0, 0, 0);
        m.leave();
        countsAre("the frame left", m, 1, 91, 0, 1, 3, 0, 0, 0, 0, 0);
    }

    /** Promise 17: "Blocks in use (0)": from none to the most there can be. */
    private static void blocksInUse() {
        SafeMemory m = Scenes.noLock();
        Check.due("40 blocks", 40, m.count(0));
        for (int r = 0; r < 8; r++) {
            m.free(r);
            Check.due("one less", 39 - r, m.count(0));
        }
        m.enter();
        m.local(0, 1);
        Check.due("a frame is none", 32, m.count(0));
    }

    /** Promise 17: "words that are free for blocks (1)": those in gaps and under the TOP, from 96 to 0. */
    private static void wordsFreeForBlocks() {
        SafeMemory m = Scenes.noRoom();
        Check.due("none", 0, m.count(1));
        m.free(1);
        Check.due("a gap", 24, m.count(1));
        m.free(3);
        Check.due("a gap and the end", 48, m.count(1));
        m.enter();
        m.local(4, 8);
        Check.due("less a local", 40, m.count(1));
        m.enter();
        Check.due("less a frame without locals", 40, m.count(1));
        m.local(4, 1);
        Check.due("less two locals", 39, m.count(1));
        m.leave();
        Check.due("less the first local", 40, m.count(1));
        m.leave();
        m.free(0);
        m.free(2);
        Check.due("all", 96, m.count(1));
    }

    /** Promise 17: "frames (2)": from 0 to 6. */
    private static void frames() {
        SafeMemory m = Scenes.sixFrames();
        Check.due("six", 6, m.count(2));
        for (int frame = 5; frame >= 0; frame--) {
            m.leave();
            Check.due("one less", frame, m.count(2));
        }
    }

    /** Promise 17: "locks in use (3)": of blocks and of frames, from 0 to 40. */
    private static void locksInUse() {
        SafeMemory m = Scenes.sixFrames();
        Check.due("of six frames", 6, m.count(3));
        for (int i = 0; i < 34; i++) {
            m.alloc(i % 8, 1);
        }
        Check.due("of six frames and 34 blocks", 40, m.count(3));
        m.free(0);
        Check.due("less a block", 39, m.count(3));
        m.leave();
        Check.due("less a frame", 38, m.count(3));
    }

    /** Promise 17: "keys given (4)": never fewer, though what they were for is over. */
    private static void keysGiven() {
        SafeMemory m = new SafeMemory();
        for (int i = 1; i <= 50; i++) {
            m.alloc(0, 1);
            m.free(0);
            m.enter();
            m.leave();
            Check.due("keys", 2 * i, m.count(4));
        }
    }

    /** Promise 17: "tests that threw UnsupportedOperationException (5), IllegalStateException (6), IndexOutOfBoundsException (7)". */
    private static void testsOfEveryCall() {
        SafeMemory m = Scenes.aliveAndOver();
        Check.tested("free", m, Check.UNTAGGED, () -> m.free(2));
        Check.tested("load", m, Check.UNTAGGED, () -> m.load(3, 2, 0));
        Check.tested("store", m, Check.UNTAGGED, () -> m.store(2, 0, 3));
        Check.tested("copy from", m, Check.UNTAGGED, () -> m.copy(0, 2, 1));
        Check.tested("copy to", m, Check.UNTAGGED, () -> m.copy(2, 0, 1));
        Check.tested("narrow", m, Check.UNTAGGED, () -> m.narrow(2, 0, 1));
        Check.tested("free", m, Check.STATE, () -> m.free(1));
        Check.tested("load", m, Check.STATE, () -> m.load(3, 1, 0));
        Check.tested("store", m, Check.STATE, () -> m.store(1, 0, 3));
        Check.tested("copy from", m, Check.STATE, () -> m.copy(0, 1, 1));
        Check.tested("copy to", m, Check.STATE, () -> m.copy(1, 0, 1));
        Check.tested("narrow", m, Check.STATE, () -> m.narrow(1, 0, 1));
        m.add(0, 4);
        m.alloc(1, 4);
        Check.tested("free", m, Check.OUTSIDE, () -> m.free(0));
        Check.tested("load", m, Check.OUTSIDE, () -> m.load(3, 0, 0));
        Check.tested("store", m, Check.OUTSIDE, () -> m.store(0, 0, 3));
        Check.tested("copy from", m, Check.OUTSIDE, () -> m.copy(1, 0, 1));
        Check.tested("copy to", m, Check.OUTSIDE, () -> m.copy(0, 1, 1));
        Check.tested("narrow", m, Check.OUTSIDE, () -> m.narrow(0, 0, 1));
        countsAre("six of each", m, 3, 84, 0, 3, 4, 6, 6, 6, 0, 0);
    }

    /** Promise 17: "tests that threw": no room, no lock, no frame, no such local and wrong arguments are no tests of pointers. */
    private static void otherThrowsAreNotTests() {
        SafeMemory full = Scenes.noRoom();
        Check.refused("alloc without room", full, Check.STATE, () -> full.alloc(0, 1));
        full.enter();
        Check.refused("local without room", full, Check.STATE, () -> full.local(0, 1));
        SafeMemory locked = Scenes.noLock();
        Check.refused("alloc without a lock", locked, Check.STATE, () -> locked.alloc(0, 1));
        Check.refused("enter without a lock", locked, Check.STATE, locked::enter);
        SafeMemory m = new SafeMemory();
        Check.refused("leave", m, Check.STATE, m::leave);
        Check.refused("local", m, Check.STATE, () -> m.local(0, 1));
        Check.refused("point", m, Check.STATE, () -> m.point(0, 0));
        m.enter();
        Check.refused("point to no local", m, Check.OUTSIDE, () -> m.point(0, 0));
        Check.refused("load", m, Check.ARGUMENT, () -> m.load(0, 0, 1001));
        countsAre("no tests", m, 0, 96, 1, 1, 1, 0, 0, 0, 0, 0);
    }

    /** Promise 17: "words in use that are pointers (8)": in blocks and in frames, registers not. */
    private static void wordsThatArePointers() {
        SafeMemory m = new SafeMemory();
        m.alloc(0, 4);
        m.enter();
        m.local(1, 3);
        Check.due("pointers in registers alone", 0, m.count(8));
        m.store(0, 0, 0);
        Check.due("in a block's first word", 1, m.count(8));
        m.store(0, 3, 1);
        Check.due("in a block's last word", 2, m.count(8));
        m.store(1, 0, 0);
        Check.due("in a local's first word", 3, m.count(8));
        m.store(1, 2, 1);
        Check.due("in a local's last word", 4, m.count(8));
        m.store(1, 2, 0);
        Check.due("a pointer over a pointer", 4, m.count(8));
        m.set(2, 95);
        m.store(0, 1, 2);
        Check.due("a number is none", 4, m.count(8));
        m.store(0, 0, 2);
        Check.due("a number over a pointer", 3, m.count(8));
    }

    /** Promise 17: "of these ALIVE (9)": one that is over is still a pointer. */
    private static void wordsThatArePointersAlive() {
        SafeMemory m = new SafeMemory();
        m.alloc(0, 4);
        m.alloc(1, 4);
        m.enter();
        m.local(2, 3);
        m.store(0, 0, 0);
        m.store(0, 1, 1);
        m.store(0, 2, 2);
        m.store(2, 0, 1);
        Check.due("pointers", 4, m.count(8));
        Check.due("alive", 4, m.count(9));
        m.free(1);
        Check.due("pointers, a block freed", 4, m.count(8));
        Check.due("alive, a block freed", 2, m.count(9));
        m.alloc(3, 4);
        Check.due("alive, its words in use again", 2, m.count(9));
        m.leave();
        Check.due("pointers, the frame left", 3, m.count(8));
        Check.due("alive, the frame left", 1, m.count(9));
    }

    /** Promise 17: "words in use that are pointers (8), of these ALIVE (9)": all 96 of them. */
    private static void allWordsArePointers() {
        SafeMemory m = Scenes.noRoom();
        for (int word = 0; word < 96; word++) {
            m.store(word / 24, word % 24, word % 2);
        }
        Check.due("pointers", 96, m.count(8));
        Check.due("alive", 96, m.count(9));
        m.free(0);
        Check.due("pointers, a block freed", 72, m.count(8));
        Check.due("alive, a block freed", 36, m.count(9));
        m.free(1);
        Check.due("pointers, both freed", 48, m.count(8));
        Check.due("alive, both freed", 0, m.count(9));
    }

    /** Promise 17: "words in use": those of a freed block or of a closed frame are not, nor are they later. */
    private static void wordsNotInUseAreNotCounted() {
        SafeMemory m = new SafeMemory();
        m.alloc(0, 2);
        m.alloc(1, 2);
        m.store(1, 0, 0);
        m.store(1, 1, 0);
        m.free(1);
        Check.due("of a freed block", 0, m.count(8));
        Check.due("of a freed block, alive", 0, m.count(9));
        m.enter();
        m.local(2, 1);
        m.store(2, 0, 0);
        m.leave();
        Check.due("of a closed frame", 0, m.count(8));
        Check.due("of a closed frame, alive", 0, m.count(9));
        m.alloc(1, 2);
        m.enter();
        m.local(2, 1);
        Check.due("in use again", 0, m.count(8));
    }

    /** Promise 17: "count": an answer changes nothing. */
    private static void countChangesNothing() {
        SafeMemory m = Scenes.aliveAndOver();
        m.store(0, 0, 1);
        for (int again = 0; again < 3; again++) {
            countsAre("again", m, 2, 88, 0, 2, 3, 0, 0, 0, 1, 0);
        }
    }

    /** Promise 17: "IllegalArgumentException: another number." */
    private static void anotherNumber() {
        SafeMemory m = Scenes.aliveAndOver();
        for (int what : new int[] {-1, 10, Integer.MIN_VALUE, Integer.MAX_VALUE}) {
            Check.refused("count(" + what + ")", m, Check.ARGUMENT, () -> m.count(what));
        }
    }
}
