/**
 * Promises 4 (alloc) and 5 (free); the remark at each test quotes the words that it tests. Where a
 * block is, and what its words are at first: TermsTest.
 */
public final class HeapTest {
    public static void main(String[] args) {
        allocMakesAPointer();
        allocTakesOneTo24Words();
        allocHasARange();
        allocGivesANewLockAndKey();
        allocOverAPointer();
        allocWithoutRoom();
        allocWithoutRoomInOnePiece();
        allocWithoutALock();
        allocWithTheLastLock();
        freeMakesWordsFree();
        freeLetsTheLockGo();
        freeAnswersTheBlocksWords();
        freeWithoutTags();
        freeOfWhatIsOver();
        freeNotAtTheFirstAddress();
        freeAtAnAddressOutOfTheMemory();
        freeAtAnotherBlock();
        freeWhereABlockWas();
        freeOfALocal();
        freeByNarrowBounds();
        freeIsTestedInOrder();
        Check.end();
    }

    /** Promise 4: "the register becomes a pointer to its first word, with bounds of the block": "answers the address." */
    private static void allocMakesAPointer() {
        SafeMemory m = new SafeMemory();
        Check.due("the first block", 0, m.alloc(5, 7));
        Check.registerIs("the first block", m, 5, 0, 1, 1, 7, 0, 1);
        Check.due("the second block", 7, m.alloc(6, 3));
        Check.registerIs("the second block", m, 6, 7, 1, 1, 3, 0, 2);
        Check.tested("below it", m, Check.OUTSIDE, () -> m.load(0, 6, -1));
        Check.due("its first word", 0, m.load(0, 6, 0));
        Check.due("its last word", 0, m.load(0, 6, 2));
        Check.tested("above it", m, Check.OUTSIDE, () -> m.load(0, 6, 3));
    }

    /** Promise 4: "A block of n words (1 .. 24)": both ends are in it. */
    private static void allocTakesOneTo24Words() {
        SafeMemory m = new SafeMemory();
        Check.due("a block of 1", 0, m.alloc(0, 1));
        Check.due("the rest after 1", 95, m.count(1));
        Check.due("a block of 24", 1, m.alloc(1, 24));
        Check.due("the rest after 24", 71, m.count(1));
        Check.registerIs("a block of 1", m, 0, 0, 1, 1, 1, 0, 1);
        Check.registerIs("a block of 24", m, 1, 1, 1, 1, 24, 0, 2);
    }

    /** Promise 4: "IllegalArgumentException: also n out of range." */
    private static void allocHasARange() {
        SafeMemory m = new SafeMemory();
        SafeMemory full = Scenes.noRoom();
        for (int n : new int[] {0, -1, 25, Integer.MIN_VALUE, Integer.MAX_VALUE}) {
            Check.refused("alloc of " + n, m, Check.ARGUMENT, () -> m.alloc(0, n));
            Check.refused("alloc of " + n + " without room", full, Check.ARGUMENT, () -> full.alloc(0, n));
        }
        Check.registerIs("after them", m, 0, 0, 0, 0, 0, 0, 0);
    }

    /** Promise 4: "a new lock and key": one of each for every block. */
    private static void allocGivesANewLockAndKey() {
        SafeMemory m = new SafeMemory();
        for (int block = 1; block <= 8; block++) {
            m.alloc(block - 1, 2);
            Check.due("its key", block, m.register(block - 1, 5));
            Check.due("locks", block, m.count(3));
            Check.due("keys", block, m.count(4));
        }
        m.free(3);
        for (int r = 0; r < 8; r++) {
            Check.due("alive " + r, r == 3 ? 0 : 1, m.register(r, 2));
        }
    }

    /** Promise 4: "the register becomes a pointer": what it was before stays in use, if it was a pointer. */
    private static void allocOverAPointer() {
        SafeMemory m = new SafeMemory();
        m.set(0, -77);
        m.alloc(0, 2);
        Check.registerIs("over a number", m, 0, 0, 1, 1, 2, 0, 1);
        m.alloc(0, 2);
        Check.registerIs("over a pointer", m, 0, 2, 1, 1, 2, 0, 2);
        Check.due("both blocks are in use", 2, m.count(0));
    }

    /** Promise 4: "IllegalStateException: there is no room": none, or one word too few. */
    private static void allocWithoutRoom() {
        SafeMemory m = Scenes.noRoom();
        Check.refused("one word of none", m, Check.STATE, () -> m.alloc(0, 1));
        Check.refused("24 words of none", m, Check.STATE, () -> m.alloc(0, 24));
        m.free(3);
        m.alloc(3, 1);
        Check.refused("24 words of 23", m, Check.STATE, () -> m.alloc(4, 24));
        Check.registerIs("the register stays", m, 4, 0, 0, 0, 0, 0, 0);
        Check.due("23 words of 23", 73, m.alloc(4, 23));
    }

    /** Promise 4: "IllegalStateException: there is no room": words enough, but not side by side. */
    private static void allocWithoutRoomInOnePiece() {
        SafeMemory m = new SafeMemory();
        for (int i = 0; i < 16; i++) {
            m.alloc(i % 8, 6);
        }
        for (int r = 1; r < 8; r += 2) {
            m.free(r);
        }
        Check.due("free words", 24, m.count(1));
        Check.refused("7 words of 6 and 6", m, Check.STATE, () -> m.alloc(1, 7));
        Check.due("6 words", 54, m.alloc(1, 6));
    }

    /** Promise 4: "IllegalStateException: there is no room, or no lock.": 40 blocks, though 56 words are free. */
    private static void allocWithoutALock() {
        SafeMemory m = Scenes.noLock();
        Check.due("free words", 56, m.count(1));
        Check.refused("a 41st block", m, Check.STATE, () -> m.alloc(0, 1));
        Check.registerIs("the register stays", m, 0, 32, 1, 1, 1, 0, 33);
        m.free(3);
        Check.due("with the lock let go", 35, m.alloc(0, 1));
        Check.registerIs("with the lock let go", m, 0, 35, 1, 1, 1, 0, 41);
        Check.refused("a 41st block again", m, Check.STATE, () -> m.alloc(1, 1));
    }

    /** Promise 4: "or no lock": frames have theirs, too. */
    private static void allocWithTheLastLock() {
        SafeMemory m = Scenes.sixFrames();
        for (int i = 0; i < 34; i++) {
            Check.due("a block", i, m.alloc(0, 1));
        }
        Check.refused("a lock beside 6 and 34", m, Check.STATE, () -> m.alloc(1, 1));
        m.leave();
        Check.due("the lock of a frame", 34, m.alloc(1, 1));
        Check.refused("a lock beside 5 and 35", m, Check.STATE, () -> m.alloc(2, 1));
    }

    /** Promise 5: "Frees a block by a pointer: its words are free". */
    private static void freeMakesWordsFree() {
        SafeMemory m = Scenes.noRoom();
        m.free(1);
        Check.due("blocks", 3, m.count(0));
        Check.due("free words", 24, m.count(1));
        Check.due("its first word", 24, m.alloc(4, 1));
        Check.due("its other words", 25, m.alloc(5, 23));
        Check.due("no free words", 0, m.count(1));
        m.free(0);
        m.free(2);
        m.free(3);
        m.free(4);
        m.free(5);
        Check.due("all words", 96, m.count(1));
        Check.due("no blocks", 0, m.count(0));
    }

    /** Promise 5: "its lock holds 0 and is let go." */
    private static void freeLetsTheLockGo() {
        SafeMemory m = new SafeMemory();
        m.alloc(0, 5);
        m.alloc(1, 7);
        m.move(2, 1);
        m.store(0, 0, 1);
        m.free(2);
        Check.due("locks", 1, m.count(3));
        Check.due("keys", 2, m.count(4));
        Check.registerIs("the pointer is over", m, 2, 5, 1, 0, 7, 0, 2);
        Check.registerIs("its copy is over", m, 1, 5, 1, 0, 7, 0, 2);
        Check.due("its copy in a word is over", 0, m.count(9));
        Check.registerIs("the other block's is alive", m, 0, 0, 1, 1, 5, 0, 1);
    }

    /** Promise 5: "Answers how many words it has.": from 1 to 24. */
    private static void freeAnswersTheBlocksWords() {
        SafeMemory m = new SafeMemory();
        for (int n = 1; n <= 24; n++) {
            m.alloc(0, n);
            Check.due("free", n, m.free(0));
        }
    }

    /** Promise 5: "TESTED: tags": a number like a block's address is none. */
    private static void freeWithoutTags() {
        SafeMemory m = Scenes.aliveAndOver();
        for (int value : new int[] {4, 0, -1, 96}) {
            m.set(3, value);
            Check.tested("free of the number " + value, m, Check.UNTAGGED, () -> m.free(3));
        }
    }

    /** Promise 5: "TESTED: tags, ALIVE": twice, by a copy, where a block is again, and of a closed frame. */
    private static void freeOfWhatIsOver() {
        SafeMemory m = new SafeMemory();
        m.alloc(0, 5);
        m.move(1, 0);
        m.free(0);
        Check.tested("free again", m, Check.STATE, () -> m.free(0));
        Check.tested("free again by a copy", m, Check.STATE, () -> m.free(1));
        m.alloc(2, 5);
        Check.tested("free of the block that is there now", m, Check.STATE, () -> m.free(0));
        Check.due("the block is in use", 1, m.count(0));
        m.enter();
        m.local(3, 1);
        m.leave();
        Check.tested("free of a local that is over", m, Check.STATE, () -> m.free(3));
    }

    /** Promise 5: "IndexOutOfBoundsException if its number is not the first address of a block". */
    private static void freeNotAtTheFirstAddress() {
        SafeMemory m = Scenes.aliveAndOver();
        for (int k : new int[] {1, 3, 4, -1}) {
            m.add(0, k);
            Check.tested("free at " + k, m, Check.OUTSIDE, () -> m.free(0));
            m.add(0, -k);
        }
        Check.due("the block is in use", 1, m.register(0, 2));
        Check.due("free at the first address", 4, m.free(0));
    }

    /** Promise 5: "if its number is not the first address of a block": any number is allowed. */
    private static void freeAtAnAddressOutOfTheMemory() {
        SafeMemory m = new SafeMemory();
        m.alloc(0, 4);
        for (int k : new int[] {95, 96, 97, 1000, -1, -96, -1000}) {
            m.add(0, k);
            Check.tested("free at " + k, m, Check.OUTSIDE, () -> m.free(0));
            m.add(0, -k);
        }
        Check.due("free at the first address", 4, m.free(0));
    }

    /** Promise 5: "of a block that is in use, with whose key it was made.": not another one's first address. */
    private static void freeAtAnotherBlock() {
        SafeMemory m = new SafeMemory();
        m.alloc(0, 4);
        m.alloc(1, 4);
        m.add(0, 4);
        Check.tested("free of the second by the first's", m, Check.OUTSIDE, () -> m.free(0));
        m.add(1, -4);
        Check.tested("free of the first by the second's", m, Check.OUTSIDE, () -> m.free(1));
        Check.due("both are in use", 2, m.count(0));
        m.add(0, -4);
        m.add(1, 4);
        Check.due("free of the first by its own", 4, m.free(0));
        Check.due("free of the second by its own", 4, m.free(1));
    }

    /** Promise 5: "the first address of a block that is in use": not of one that was. */
    private static void freeWhereABlockWas() {
        SafeMemory m = Scenes.aliveAndOver();
        m.add(0, 4);
        Check.tested("free where a block was", m, Check.OUTSIDE, () -> m.free(0));
        m.alloc(1, 4);
        Check.tested("free where a block is again", m, Check.OUTSIDE, () -> m.free(0));
        SafeMemory first = new SafeMemory();
        first.alloc(0, 4);
        first.alloc(1, 4);
        first.free(1);
        first.add(0, 4);
        Check.tested("free where the second block was by the first", first, Check.OUTSIDE, () -> first.free(0));
    }

    /** Promise 5: "of a block that is in use, with whose key it was made.": a local is none. */
    private static void freeOfALocal() {
        SafeMemory m = new SafeMemory();
        m.alloc(0, 4);
        m.enter();
        m.local(2, 2);
        Check.tested("free of a local", m, Check.OUTSIDE, () -> m.free(2));
        m.point(3, 0);
        Check.tested("free of a local by point", m, Check.OUTSIDE, () -> m.free(3));
        m.add(2, -94);
        Check.tested("free of a block by a local's pointer", m, Check.OUTSIDE, () -> m.free(2));
        m.add(0, 94);
        Check.tested("free of a local by a block's pointer", m, Check.OUTSIDE, () -> m.free(0));
        Check.due("the frame's words", 2, m.leave());
    }

    /** Promise 5: "with whose key it was made": bounds that were narrowed do not matter. */
    private static void freeByNarrowBounds() {
        SafeMemory m = new SafeMemory();
        m.alloc(0, 4);
        m.narrow(0, 2, 1);
        Check.tested("free at the narrow first", m, Check.OUTSIDE, () -> m.free(0));
        m.add(0, -2);
        Check.due("free outside of the narrow bounds", 4, m.free(0));
        m.alloc(0, 4);
        m.narrow(0, 0, 1);
        Check.due("free inside of the narrow bounds", 4, m.free(0));
        Check.due("all words", 96, m.count(1));
    }

    /** Promise 5: "TESTED: tags, ALIVE; then IndexOutOfBoundsException". */
    private static void freeIsTestedInOrder() {
        SafeMemory m = Scenes.aliveAndOver();
        m.set(2, 500);
        Check.tested("no tags, and no block", m, Check.UNTAGGED, () -> m.free(2));
        m.add(1, 1);
        Check.tested("over, and no block", m, Check.STATE, () -> m.free(1));
        m.add(0, 1);
        Check.tested("no block alone", m, Check.OUTSIDE, () -> m.free(0));
    }
}
