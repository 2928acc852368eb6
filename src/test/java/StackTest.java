/**
 * Promises 11 (enter), 12 (local), 13 (point) and 14 (leave); the remark at each test quotes the
 * words that it tests. What a local's words are at first: TermsTest.
 */
public final class StackTest {
    private static final int LEAST = Integer.MIN_VALUE;
    private static final int MOST = Integer.MAX_VALUE;

    public static void main(String[] args) {
        enterAnswersHowManyFrames();
        enterOpensAFrameWithoutLocals();
        enterTakesALockAndAKey();
        enterNeedsNoWords();
        enterASeventh();
        enterWithoutALock();
        localMakesAPointer();
        localTakesOneToEightWords();
        localHasARange();
        localIsOfTheFrameOpenedLast();
        localWithoutAFrame();
        localWithoutRoomAboveABlock();
        localWithoutRoomAboveAddressZero();
        localWithWordsFreeElsewhere();
        localsAsManyAsWords();
        pointIsAsLocalMadeIt();
        pointIsOfTheFrameOpenedLast();
        pointWithoutAFrame();
        pointToNoSuchLocal();
        pointToALocalOfAnotherFrame();
        leaveEndsTheFrame();
        leaveAnswersTheFramesWords();
        leaveTakesTheLastFrameAlone();
        leaveOfAFrameWithoutLocals();
        leaveWithoutAFrame();
        Check.end();
    }

    /** Promise 11: "answers how many frames there are." */
    private static void enterAnswersHowManyFrames() {
        SafeMemory m = new SafeMemory();
        for (int frame = 1; frame <= 6; frame++) {
            Check.due("enter", frame, m.enter());
            Check.due("frames", frame, m.count(2));
        }
        m.leave();
        m.leave();
        Check.due("enter after two are left", 5, m.enter());
    }

    /** Promise 11: "Opens a frame without locals", though the frame before has some, or one that was left had. */
    private static void enterOpensAFrameWithoutLocals() {
        SafeMemory m = new SafeMemory();
        m.enter();
        Check.refused("the first frame's", m, Check.OUTSIDE, () -> m.point(0, 0));
        m.local(0, 2);
        m.enter();
        Check.refused("the second frame's", m, Check.OUTSIDE, () -> m.point(0, 0));
        Check.due("free words", 94, m.count(1));
        m.local(0, 2);
        m.leave();
        m.enter();
        Check.refused("another second frame's", m, Check.OUTSIDE, () -> m.point(0, 0));
    }

    /** Promise 11: "with a new lock and key": one of each. */
    private static void enterTakesALockAndAKey() {
        SafeMemory m = new SafeMemory();
        m.alloc(0, 1);
        for (int frame = 1; frame <= 6; frame++) {
            m.enter();
            Check.due("locks", 1 + frame, m.count(3));
            Check.due("keys", 1 + frame, m.count(4));
            m.local(1, 1);
            Check.due("its key", 1 + frame, m.register(1, 5));
        }
        Check.due("no lock for locals", 7, m.count(3));
        Check.due("no key for locals", 7, m.count(4));
    }

    /** Promise 11: "Opens a frame without locals": also where no word is free. */
    private static void enterNeedsNoWords() {
        SafeMemory m = Scenes.noRoom();
        Check.due("enter", 1, m.enter());
        Check.due("leave", 0, m.leave());
        Check.due("blocks", 4, m.count(0));
    }

    /** Promise 11: "IllegalStateException: 6 are there". */
    private static void enterASeventh() {
        SafeMemory m = Scenes.sixFrames();
        Check.refused("a seventh", m, Check.STATE, m::enter);
        Check.refused("a seventh again", m, Check.STATE, m::enter);
        m.leave();
        Check.due("a sixth again", 6, m.enter());
        Check.due("keys", 7, m.count(4));
        Check.refused("a seventh once more", m, Check.STATE, m::enter);
    }

    /** Promise 11: "IllegalStateException: 6 are there, or no lock is." */
    private static void enterWithoutALock() {
        SafeMemory m = Scenes.noLock();
        Check.refused("40 blocks", m, Check.STATE, m::enter);
        m.free(7);
        Check.due("with the lock let go", 1, m.enter());
        Check.refused("39 blocks and a frame", m, Check.STATE, m::enter);
        Check.due("keys", 41, m.count(4));
        m.leave();
        Check.due("with the frame's lock let go", 1, m.enter());
    }

    /** Promise 12: "the register becomes a pointer to its first (lowest) word, with its bounds and the frame's lock and key; answers the address." */
    private static void localMakesAPointer() {
        SafeMemory m = new SafeMemory();
        m.alloc(7, 1);
        m.enter();
        Check.due("the first", 90, m.local(0, 6));
        Check.registerIs("the first", m, 0, 90, 1, 1, 6, 0, 2);
        Check.due("the second", 88, m.local(1, 2));
        Check.registerIs("the second", m, 1, 88, 1, 1, 2, 0, 2);
        Check.tested("below the second", m, Check.OUTSIDE, () -> m.load(3, 1, -1));
        Check.due("the second's first word", 0, m.load(3, 1, 0));
        Check.due("the second's last word", 0, m.load(3, 1, 1));
        Check.tested("above the second", m, Check.OUTSIDE, () -> m.load(3, 1, 2));
        Check.due("the first's last word", 0, m.load(3, 0, 5));
        Check.tested("above the first", m, Check.OUTSIDE, () -> m.load(3, 0, 6));
    }

    /** Promise 12: "one more local, of n (1 .. 8) words": both ends are in it. */
    private static void localTakesOneToEightWords() {
        SafeMemory m = new SafeMemory();
        m.enter();
        Check.due("a local of 8", 88, m.local(0, 8));
        Check.registerIs("a local of 8", m, 0, 88, 1, 1, 8, 0, 1);
        Check.due("a local of 1", 87, m.local(1, 1));
        Check.registerIs("a local of 1", m, 1, 87, 1, 1, 1, 0, 1);
        Check.due("free words", 87, m.count(1));
    }

    /** Promise 12: "IllegalArgumentException: also n.", with a frame and without. */
    private static void localHasARange() {
        SafeMemory m = new SafeMemory();
        SafeMemory framed = new SafeMemory();
        framed.enter();
        for (int n : new int[] {0, -1, 9, LEAST, MOST}) {
            Check.refused("without a frame, " + n, m, Check.ARGUMENT, () -> m.local(0, n));
            Check.refused("with a frame, " + n, framed, Check.ARGUMENT, () -> framed.local(0, n));
        }
        Check.refused("there is no local", framed, Check.OUTSIDE, () -> framed.point(0, 0));
    }

    /** Promise 12: "The frame opened last has one more local". */
    private static void localIsOfTheFrameOpenedLast() {
        SafeMemory m = new SafeMemory();
        m.enter();
        m.local(0, 3);
        m.enter();
        Check.due("of the second frame", 89, m.local(1, 4));
        Check.registerIs("of the second frame", m, 1, 89, 1, 1, 4, 0, 2);
        Check.due("its number", 89, m.point(2, 0));
        m.leave();
        Check.due("of the first frame again", 92, m.local(1, 1));
        Check.registerIs("of the first frame again", m, 1, 92, 1, 1, 1, 0, 1);
        Check.due("its number there", 92, m.point(2, 1));
    }

    /** Promise 12: "IllegalStateException: no frame is open": at first, and after the last one is left. */
    private static void localWithoutAFrame() {
        SafeMemory m = new SafeMemory();
        Check.refused("at first", m, Check.STATE, () -> m.local(0, 1));
        m.enter();
        m.leave();
        Check.refused("after a frame", m, Check.STATE, () -> m.local(0, 1));
        Check.registerIs("the register stays", m, 0, 0, 0, 0, 0, 0, 0);
    }

    /** Promise 12: "or there is no room": down to a block, and no further. */
    private static void localWithoutRoomAboveABlock() {
        SafeMemory m = new SafeMemory();
        for (int r = 0; r < 3; r++) {
            m.alloc(r, 24);
        }
        m.alloc(3, 20);
        m.enter();
        Check.refused("five of four words", m, Check.STATE, () -> m.local(4, 5));
        Check.registerIs("the register stays", m, 4, 0, 0, 0, 0, 0, 0);
        Check.due("four of four words", 92, m.local(4, 4));
        Check.refused("one of none", m, Check.STATE, () -> m.local(5, 1));
        m.free(3);
        Check.due("where the block was", 84, m.local(5, 8));
    }

    /** Promise 12: "or there is no room": down to address 0, and no further. */
    private static void localWithoutRoomAboveAddressZero() {
        SafeMemory m = new SafeMemory();
        m.enter();
        for (int i = 1; i <= 11; i++) {
            Check.due("a local of 8", 96 - 8 * i, m.local(0, 8));
        }
        m.enter();
        Check.due("seven of eight words", 1, m.local(1, 7));
        Check.refused("two of one word", m, Check.STATE, () -> m.local(2, 2));
        Check.refused("eight of one word", m, Check.STATE, () -> m.local(2, 8));
        Check.due("the word at 0", 0, m.local(2, 1));
        Check.refused("one of none", m, Check.STATE, () -> m.local(3, 1));
        Check.refused("a block of none", m, Check.STATE, () -> m.alloc(3, 1));
        Check.due("no free words", 0, m.count(1));
        Check.due("leave", 8, m.leave());
        Check.due("eight of eight words", 0, m.local(3, 8));
    }

    /** Promise 12: "or there is no room": free words below a block are none for a frame. */
    private static void localWithWordsFreeElsewhere() {
        SafeMemory m = Scenes.noRoom();
        m.free(0);
        m.free(1);
        m.free(2);
        m.enter();
        Check.due("free words", 72, m.count(1));
        Check.refused("a local", m, Check.STATE, () -> m.local(4, 1));
        m.free(3);
        m.alloc(0, 1);
        Check.due("above the only block", 88, m.local(4, 8));
        SafeMemory hole = Scenes.noRoom();
        hole.free(3);
        hole.alloc(3, 4);
        hole.alloc(4, 4);
        hole.free(3);
        hole.enter();
        hole.local(5, 8);
        hole.local(5, 8);
        Check.refused("a block lies between", hole, Check.STATE, () -> hole.local(5, 8));
    }

    /** Promise 12: "one more local": as many as there are words. */
    private static void localsAsManyAsWords() {
        SafeMemory m = new SafeMemory();
        m.enter();
        for (int i = 0; i < 96; i++) {
            Check.due("local " + i, 95 - i, m.local(0, 1));
        }
        Check.refused("a 97th", m, Check.STATE, () -> m.local(0, 1));
        Check.due("the first", 95, m.point(1, 0));
        Check.due("the last", 0, m.point(1, 95));
        Check.refused("one after the last", m, Check.OUTSIDE, () -> m.point(1, 96));
        Check.due("leave", 96, m.leave());
    }

    /** Promise 13: "A register becomes a pointer to a local of the frame opened last, as local made it; answers the address." */
    private static void pointIsAsLocalMadeIt() {
        SafeMemory m = new SafeMemory();
        m.enter();
        m.local(0, 1);
        m.local(0, 4);
        m.local(1, 3);
        m.narrow(0, 1, 1);
        m.add(1, 50);
        Check.due("point 0", 95, m.point(2, 0));
        Check.registerIs("point 0", m, 2, 95, 1, 1, 1, 0, 1);
        Check.due("point 1", 91, m.point(2, 1));
        Check.registerIs("point 1", m, 2, 91, 1, 1, 4, 0, 1);
        Check.due("point 2", 88, m.point(2, 2));
        Check.registerIs("point 2", m, 2, 88, 1, 1, 3, 0, 1);
        m.set(3, 17);
        m.store(2, 0, 3);
        m.point(4, 2);
        Check.due("its words stay", 17, m.load(5, 4, 0));
        Check.due("no key is given", 1, m.count(4));
        Check.due("no local is made", 8, m.leave());
    }

    /** Promise 13: "a local of the frame opened last": numbers begin anew in each frame. */
    private static void pointIsOfTheFrameOpenedLast() {
        SafeMemory m = new SafeMemory();
        m.enter();
        m.local(0, 2);
        m.local(0, 5);
        m.enter();
        m.local(0, 1);
        Check.due("point 0 of the second", 88, m.point(1, 0));
        Check.registerIs("point 0 of the second", m, 1, 88, 1, 1, 1, 0, 2);
        m.leave();
        Check.due("point 0 of the first", 94, m.point(1, 0));
        Check.registerIs("point 0 of the first", m, 1, 94, 1, 1, 2, 0, 1);
        Check.due("point 1 of the first", 89, m.point(1, 1));
        Check.registerIs("point 1 of the first", m, 1, 89, 1, 1, 5, 0, 1);
    }

    /** Promise 13: "IllegalStateException: no frame is open.", whatever the number is. */
    private static void pointWithoutAFrame() {
        SafeMemory m = new SafeMemory();
        for (int number : new int[] {0, -1, 5, LEAST, MOST}) {
            Check.refused("at first, " + number, m, Check.STATE, () -> m.point(0, number));
        }
        m.enter();
        m.local(0, 1);
        m.leave();
        for (int number : new int[] {0, -1, 1}) {
            Check.refused("after a frame, " + number, m, Check.STATE, () -> m.point(0, number));
        }
    }

    /** Promise 13: "IndexOutOfBoundsException: it has no such local." */
    private static void pointToNoSuchLocal() {
        SafeMemory m = new SafeMemory();
        m.enter();
        Check.refused("without locals", m, Check.OUTSIDE, () -> m.point(1, 0));
        m.local(0, 1);
        m.local(0, 1);
        for (int number : new int[] {2, -1, LEAST, MOST}) {
            Check.refused("number " + number, m, Check.OUTSIDE, () -> m.point(1, number));
        }
        Check.registerIs("the register stays", m, 1, 0, 0, 0, 0, 0, 0);
        Check.due("the first", 95, m.point(1, 0));
        Check.due("the last", 94, m.point(1, 1));
    }

    /** Promise 13: "it has no such local": though a frame before it, or one that was left, has. */
    private static void pointToALocalOfAnotherFrame() {
        SafeMemory m = new SafeMemory();
        m.enter();
        m.local(0, 1);
        m.local(0, 1);
        m.enter();
        Check.refused("of the frame before", m, Check.OUTSIDE, () -> m.point(1, 0));
        Check.refused("below the first", m, Check.OUTSIDE, () -> m.point(1, -1));
        m.local(0, 1);
        Check.refused("of the frame before, by count", m, Check.OUTSIDE, () -> m.point(1, 1));
        m.leave();
        Check.refused("of the frame left", m, Check.OUTSIDE, () -> m.point(1, 2));
        m.leave();
        m.enter();
        Check.refused("of a frame left before", m, Check.OUTSIDE, () -> m.point(1, 0));
    }

    /** Promise 14: "Closes the frame opened last: its lock holds 0 and is let go." */
    private static void leaveEndsTheFrame() {
        SafeMemory m = new SafeMemory();
        m.alloc(5, 2);
        m.enter();
        m.local(0, 3);
        m.local(1, 4);
        m.store(5, 0, 0);
        m.leave();
        Check.registerIs("its first local is over", m, 0, 93, 1, 0, 3, 0, 2);
        Check.registerIs("its second local is over", m, 1, 89, 1, 0, 4, 0, 2);
        Check.due("a pointer in a word is over", 0, m.count(9));
        Check.tested("a load of it", m, Check.STATE, () -> m.load(2, 0, 0));
        Check.due("frames", 0, m.count(2));
        Check.due("locks", 1, m.count(3));
        Check.due("keys", 2, m.count(4));
        Check.due("free words", 94, m.count(1));
        m.enter();
        m.local(2, 3);
        Check.registerIs("over though a frame is there again", m, 0, 93, 1, 0, 3, 0, 2);
        Check.registerIs("the block's is alive", m, 5, 0, 1, 1, 2, 0, 1);
    }

    /** Promise 14: "Answers how many words it had." */
    private static void leaveAnswersTheFramesWords() {
        SafeMemory m = new SafeMemory();
        for (int frame = 1; frame <= 6; frame++) {
            m.enter();
            for (int local = 0; local < frame; local++) {
                m.local(0, frame % 4 + 1);
            }
        }
        int[] due = {0, 2, 6, 12, 4, 10, 18};
        for (int frame = 6; frame >= 1; frame--) {
            Check.due("leave " + frame, due[frame], m.leave());
        }
    }

    /** Promise 14: "Closes the frame opened last": the one before stays. */
    private static void leaveTakesTheLastFrameAlone() {
        SafeMemory m = new SafeMemory();
        m.enter();
        m.local(0, 3);
        m.enter();
        m.local(1, 2);
        m.alloc(2, 4);
        m.store(0, 1, 1);
        Check.due("leave the second", 2, m.leave());
        Check.due("frames", 1, m.count(2));
        Check.due("locks", 2, m.count(3));
        Check.registerIs("the first frame's local", m, 0, 93, 1, 1, 3, 0, 1);
        Check.registerIs("the second frame's local", m, 1, 91, 1, 0, 2, 0, 2);
        Check.registerIs("a block made in it", m, 2, 0, 1, 1, 4, 0, 3);
        Check.due("the first frame's word", 91, m.load(3, 0, 1));
        Check.registerIs("a pointer to the second in the first", m, 3, 91, 1, 0, 2, 0, 2);
        Check.due("leave the first", 3, m.leave());
    }

    /** Promise 14: "Answers how many words it had.": 0 without locals. */
    private static void leaveOfAFrameWithoutLocals() {
        SafeMemory m = new SafeMemory();
        m.enter();
        Check.due("the only frame", 0, m.leave());
        m.enter();
        m.local(0, 5);
        m.enter();
        Check.due("above a frame with locals", 0, m.leave());
        Check.due("the frame with locals", 5, m.leave());
    }

    /** Promise 14: "IllegalStateException: none is open." */
    private static void leaveWithoutAFrame() {
        SafeMemory m = new SafeMemory();
        Check.refused("at first", m, Check.STATE, m::leave);
        m.enter();
        m.leave();
        Check.refused("once more", m, Check.STATE, m::leave);
        m.alloc(0, 3);
        Check.refused("with a block", m, Check.STATE, m::leave);
        Check.due("enter after it", 1, m.enter());
    }
}
