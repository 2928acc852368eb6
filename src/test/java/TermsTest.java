/** The document's 'Terms'; the remark at each test quotes the words that it tests. */
public final class TermsTest {
    private static final int LEAST = Integer.MIN_VALUE;
    private static final int MOST = Integer.MAX_VALUE;

    public static void main(String[] args) {
        wordsAreAt0To95();
        wordsAreInts();
        blocksGoUpAndFramesDown();
        everyRegisterAndWordMayHaveTags();
        anyAddressIsAllowed();
        allNumbersAreZeroAtFirst();
        noTagsAreNotTheKeyZero();
        keysAreGivenInOrder();
        keysAreNeverGivenAgain();
        refusedCallsGiveNoKey();
        fortyLocksAndNoMore();
        locksLetGoAreNewAgain();
        aliveAsLongAsTheLockHoldsTheKey();
        overThoughTheLockHoldsAnotherKey();
        aBlockIsAtTheLeastAddress();
        aBlockFitsAGapOfItsSize();
        gapsSideBySideAreOne();
        aBlockGoesUpToTheTop();
        topIs96WithoutFrames();
        topIs96WithFramesOfNoWords();
        wordsAreInUseUntilTheyAreFreed();
        sixFramesAndNoMore();
        localsHaveOneToEightWords();
        theFirstLocalIsHighest();
        aBlocksWordsBeginClear();
        aFramesWordsBeginClear();
        wordsPassClearBetweenBlocksAndFrames();
        wordsInUseStayAsTheyAre();
        anAccessGoesToNumberPlusOffset();
        anAccessWithoutTags();
        anAccessToWhatIsOver();
        anAccessOutsideOfTheBounds();
        accessesAreTestedInOrder();
        oneThrowIsOneTest();
        otherThrowsComeBeforeTests();
        registersAre0To7();
        registersComeFirstOfAll();
        anObjectIsGoodFor512Calls();
        Check.end();
    }

    /** "THE MEMORY has WORDS at addresses 0 .. 95": both are there, and none below or above. */
    private static void wordsAreAt0To95() {
        SafeMemory m = Scenes.noRoom();
        m.set(4, 11);
        Check.due("store at 0", 0, m.store(0, 0, 4));
        Check.due("store at 95", 0, m.store(3, 23, 4));
        Check.due("load at 0", 11, m.load(5, 0, 0));
        Check.due("load at 95", 11, m.load(5, 3, 23));
        Check.tested("load at -1", m, Check.OUTSIDE, () -> m.load(5, 0, -1));
        Check.tested("load at 96", m, Check.OUTSIDE, () -> m.load(5, 3, 24));
        Check.refused("a word more", m, Check.STATE, () -> m.alloc(5, 1));
    }

    /** "THE MEMORY has WORDS at addresses 0 .. 95, ints.": the least and the most int, too. */
    private static void wordsAreInts() {
        SafeMemory m = new SafeMemory();
        m.alloc(0, 1);
        for (int value : new int[] {LEAST, MOST, -1, 0}) {
            m.set(1, value);
            m.store(0, 0, 1);
            Check.due("a word of " + value, value, m.load(2, 0, 0));
            Check.due("a register of " + value, value, m.register(2, 0));
        }
    }

    /** "BLOCKS are taken from 0 on upward, FRAMES from 96 on downward." */
    private static void blocksGoUpAndFramesDown() {
        SafeMemory m = new SafeMemory();
        m.enter();
        Check.due("the first local ends below 96", 95, m.local(0, 1));
        Check.due("the first block begins at 0", 0, m.alloc(1, 1));
        Check.due("the second local", 93, m.local(2, 2));
        Check.due("the second block", 1, m.alloc(3, 2));
        Check.due("the third block", 3, m.alloc(3, 1));
    }

    /** "REGISTERS 0 .. 7 and words hold a NUMBER, and may have TAGS besides: a BASE and a BOUND (addresses), a LOCK (0 .. 39) and a KEY." */
    private static void everyRegisterAndWordMayHaveTags() {
        SafeMemory m = new SafeMemory();
        int address = 0;
        for (int r = 0; r < 8; r++) {
            m.alloc(r, r + 1);
            Check.registerIs("a pointer in it", m, r, address, 1, 1, r + 1, 0, r + 1);
            address += r + 1;
        }
        for (int word = 0; word < 8; word++) {
            m.store(7, word, word);
        }
        for (int word = 0; word < 7; word++) {
            m.set(word, -5);
            m.load(word, 7, word);
            Check.registerIs("a pointer out of a word", m, word, word * (word + 1) / 2, 1, 1, word + 1, 0, word + 1);
        }
        Check.due("words with tags", 8, m.count(8));
    }

    /** "What has tags is a POINTER, its number being an address, of which any is allowed." */
    private static void anyAddressIsAllowed() {
        SafeMemory m = new SafeMemory();
        m.alloc(0, 3);
        m.alloc(1, 3);
        for (int step : new int[] {-1, 100, 1000, 1000, 1000, -1000, -1000, -1000, -1000, -1000}) {
            int number = m.register(1, 0) + step;
            Check.due("a pointer's number", number, m.add(1, step));
            Check.registerIs("a pointer far off", m, 1, number, 1, 1, 3, number - 3, 2);
        }
        m.store(0, 0, 1);
        m.load(2, 0, 0);
        Check.registerIs("a pointer far off, kept in a word", m, 2, -1898, 1, 1, 3, -1901, 2);
    }

    /** "All numbers are 0 without tags at first." */
    private static void allNumbersAreZeroAtFirst() {
        SafeMemory m = new SafeMemory();
        for (int r = 0; r < 8; r++) {
            Check.registerIs("at first", m, r, 0, 0, 0, 0, 0, 0);
        }
        for (int block = 0; block < 4; block++) {
            m.alloc(0, 24);
            for (int offset = 0; offset < 24; offset++) {
                Check.due("a word at first", 0, m.load(1, 0, offset));
                Check.due("its tags at first", 0, m.register(1, 1));
            }
        }
    }

    /** "LOCKS hold 0 (at first) or a key.": what has no tags is not ALIVE by a key 0 and a lock that holds 0. */
    private static void noTagsAreNotTheKeyZero() {
        SafeMemory m = new SafeMemory();
        Check.due("no locks in use at first", 0, m.count(3));
        Check.due("no pointer is alive at first", 0, m.register(0, 2));
        Check.tested("no tags, at first", m, Check.UNTAGGED, () -> m.load(1, 0, 0));
        Check.tested("free without tags, at first", m, Check.UNTAGGED, () -> m.free(0));
        m.alloc(2, 3);
        m.free(2);
        m.alloc(3, 3);
        Check.due("words without tags are not alive", 0, m.count(9));
        Check.due("a number is not alive", 0, m.register(0, 2));
        m.free(3);
        Check.due("a pointer whose lock holds 0 is not alive", 0, m.register(3, 2));
    }

    /** "KEYS are given in order from 1 on": to blocks and frames in one order, one to each. */
    private static void keysAreGivenInOrder() {
        SafeMemory m = new SafeMemory();
        m.alloc(0, 1);
        Check.due("the first key", 1, m.register(0, 5));
        m.enter();
        m.alloc(1, 1);
        Check.due("the key after a frame's", 3, m.register(1, 5));
        m.local(2, 1);
        Check.due("the frame's key", 2, m.register(2, 5));
        m.local(2, 1);
        m.point(3, 0);
        Check.due("the frame's key for every local", 2, m.register(2, 5));
        Check.due("the frame's key by point", 2, m.register(3, 5));
        m.narrow(3, 0, 1);
        m.move(4, 3);
        Check.due("no key for locals and copies", 3, m.count(4));
        m.enter();
        Check.due("a key for the second frame", 4, m.count(4));
    }

    /** "KEYS are given in order from 1 on, never again.": not though their blocks and frames are over. */
    private static void keysAreNeverGivenAgain() {
        SafeMemory m = new SafeMemory();
        for (int key = 1; key <= 120; key += 2) {
            m.alloc(0, 1);
            Check.due("a block's key", key, m.register(0, 5));
            m.move(1 + key / 2 % 7, 0);
            m.free(0);
            m.enter();
            m.leave();
        }
        Check.due("keys given", 120, m.count(4));
        m.alloc(0, 1);
        for (int r = 1; r < 8; r++) {
            Check.due("a former pointer stays over", 0, m.register(r, 2));
        }
    }

    /** "KEYS are given in order": a call that throws gives none. */
    private static void refusedCallsGiveNoKey() {
        SafeMemory m = Scenes.noRoom();
        Check.refused("no room", m, Check.STATE, () -> m.alloc(4, 1));
        Check.refused("too large", m, Check.ARGUMENT, () -> m.alloc(4, 25));
        m.free(0);
        m.alloc(4, 1);
        Check.due("the key after those refused", 5, m.register(4, 5));
        SafeMemory six = Scenes.sixFrames();
        Check.refused("a seventh frame", six, Check.STATE, six::enter);
        six.alloc(0, 1);
        Check.due("the key after a frame refused", 7, six.register(0, 5));
    }

    /** "a LOCK (0 .. 39)": forty are in use at once, and not one more. */
    private static void fortyLocksAndNoMore() {
        SafeMemory m = Scenes.noLock();
        Check.due("locks in use", 40, m.count(3));
        for (int r = 0; r < 8; r++) {
            Check.registerIs("a pointer among forty", m, r, 32 + r, 1, 1, 1, 0, 33 + r);
        }
        Check.refused("a lock for a block", m, Check.STATE, () -> m.alloc(0, 1));
        Check.refused("a lock for a frame", m, Check.STATE, m::enter);
    }

    /**
     * "A new LOCK is the one that was let go last and is not in use, or if there is none the least that was never in use."
     * No call tells which lock it is; but none may be lost, and none given while it is in use.
     */
    private static void locksLetGoAreNewAgain() {
        SafeMemory m = Scenes.noLock();
        for (int r : new int[] {5, 0, 7, 2}) {
            m.free(r);
        }
        Check.due("locks less four", 36, m.count(3));
        m.enter();
        m.local(0, 1);
        m.alloc(2, 1);
        m.leave();
        m.alloc(5, 1);
        m.alloc(7, 1);
        m.enter();
        Check.due("all locks again", 40, m.count(3));
        Check.refused("no lock is left", m, Check.STATE, () -> m.alloc(3, 1));
        int[] alive = {0, 1, 1, 1, 1, 1, 1, 1};
        for (int r = 0; r < 8; r++) {
            Check.due("alive " + r, alive[r], m.register(r, 2));
        }
        int[] addresses = {95, 33, 32, 35, 36, 34, 38, 37};
        for (int r = 1; r < 8; r++) {
            Check.due("the word of " + r, addresses[r], m.register(r, 0));
            m.free(r);
            Check.due("over " + r, 0, m.register(r, 2));
            Check.due("one lock less", 40 - r, m.count(3));
        }
    }

    /** "A pointer is ALIVE if its lock holds its key.": all copies are, or none. */
    private static void aliveAsLongAsTheLockHoldsTheKey() {
        SafeMemory m = new SafeMemory();
        m.alloc(0, 2);
        m.alloc(1, 2);
        m.move(2, 1);
        m.add(2, 9);
        m.move(3, 1);
        m.narrow(3, 1, 1);
        m.store(0, 0, 1);
        for (int r = 0; r < 4; r++) {
            Check.due("alive " + r, 1, m.register(r, 2));
        }
        m.free(1);
        m.load(4, 0, 0);
        Check.due("the other block's pointer", 1, m.register(0, 2));
        for (int r = 1; r < 5; r++) {
            Check.due("over " + r, 0, m.register(r, 2));
            Check.due("a pointer still", 1, m.register(r, 1));
        }
    }

    /** "A pointer is ALIVE if its lock holds its key.": not if the lock holds a later key, of the same words. */
    private static void overThoughTheLockHoldsAnotherKey() {
        SafeMemory m = new SafeMemory();
        m.alloc(0, 2);
        m.free(0);
        m.alloc(1, 2);
        Check.registerIs("the former pointer", m, 0, 0, 1, 0, 2, 0, 1);
        Check.registerIs("the new pointer", m, 1, 0, 1, 1, 2, 0, 2);
        m.free(1);
        m.enter();
        m.local(2, 1);
        Check.due("the former pointer while a frame has the lock", 0, m.register(0, 2));
        Check.due("the freed one while a frame has the lock", 0, m.register(1, 2));
        m.leave();
        m.enter();
        m.local(3, 1);
        Check.due("a former frame's local", 0, m.register(2, 2));
        Check.due("the new frame's local", 1, m.register(3, 2));
    }

    /** "a block of n words is at the least address at which n words are free": a gap too small is passed over. */
    private static void aBlockIsAtTheLeastAddress() {
        SafeMemory m = new SafeMemory();
        for (int r = 0; r < 5; r++) {
            m.alloc(r, 4);
        }
        m.free(3);
        m.free(1);
        Check.due("one too large for the gaps", 20, m.alloc(5, 5));
        Check.due("the lower gap, though freed later", 4, m.alloc(5, 3));
        Check.due("the gap's rest is too small", 12, m.alloc(5, 2));
        Check.due("the gap's rest", 7, m.alloc(5, 1));
        m.free(0);
        Check.due("address 0 again", 0, m.alloc(5, 1));
    }

    /** "a block of n words is at the least address at which n words are free": a gap of just n words will do. */
    private static void aBlockFitsAGapOfItsSize() {
        SafeMemory m = Scenes.noRoom();
        m.free(2);
        Check.due("all of the gap", 48, m.alloc(2, 24));
        Check.refused("no gap is left", m, Check.STATE, () -> m.alloc(4, 1));
        m.free(0);
        Check.due("most of the gap", 0, m.alloc(0, 23));
        Check.refused("a gap one too small", m, Check.STATE, () -> m.alloc(4, 2));
        Check.due("a gap of one word", 23, m.alloc(4, 1));
    }

    /** "a block of n words is at the least address at which n words are free": of several blocks before, too. */
    private static void gapsSideBySideAreOne() {
        SafeMemory m = new SafeMemory();
        for (int r = 0; r < 4; r++) {
            m.alloc(r, 3);
        }
        m.free(2);
        m.free(1);
        Check.due("one word more than both", 12, m.alloc(4, 7));
        Check.due("both gaps", 3, m.alloc(5, 6));
    }

    /** "free up to the TOP of the stack, the lowest address of the frames": to the word below it, and no further. */
    private static void aBlockGoesUpToTheTop() {
        SafeMemory m = new SafeMemory();
        m.enter();
        m.local(7, 8);
        m.enter();
        m.local(6, 8);
        for (int r = 0; r < 3; r++) {
            m.alloc(r, 24);
        }
        Check.refused("one word over the top", m, Check.STATE, () -> m.alloc(3, 9));
        Check.due("up to the top", 72, m.alloc(3, 8));
        Check.refused("a word at the top", m, Check.STATE, () -> m.alloc(4, 1));
        m.leave();
        Check.due("where the last frame was", 80, m.alloc(4, 8));
        Check.refused("a word at the first frame", m, Check.STATE, () -> m.alloc(5, 1));
    }

    /** "the TOP of the stack, the lowest address of the frames (96 without any)". */
    private static void topIs96WithoutFrames() {
        SafeMemory m = Scenes.noRoom();
        Check.due("no words are left", 0, m.count(1));
        m.free(3);
        m.enter();
        m.local(4, 8);
        Check.refused("under a frame", m, Check.STATE, () -> m.alloc(3, 17));
        m.leave();
        Check.due("without the frame", 72, m.alloc(3, 24));
    }

    /** "the lowest address of the frames": frames without locals have none of their own. */
    private static void topIs96WithFramesOfNoWords() {
        SafeMemory m = Scenes.sixFrames();
        Check.due("free words", 96, m.count(1));
        for (int r = 0; r < 4; r++) {
            Check.due("a block", 24 * r, m.alloc(r, 24));
        }
        SafeMemory above = new SafeMemory();
        above.enter();
        above.local(0, 5);
        above.enter();
        Check.due("below the first frame", 91, above.count(1));
        Check.due("the second frame's local", 90, above.local(1, 1));
    }

    /** "words of blocks are in use until they are freed": also if no pointer to them is left. */
    private static void wordsAreInUseUntilTheyAreFreed() {
        SafeMemory m = Scenes.noRoom();
        for (int r = 0; r < 4; r++) {
            m.set(r, 0);
        }
        Check.due("blocks", 4, m.count(0));
        Check.refused("a block", m, Check.STATE, () -> m.alloc(0, 1));
        m.enter();
        Check.refused("a local", m, Check.STATE, () -> m.local(0, 1));
        m.leave();
        SafeMemory other = new SafeMemory();
        other.enter();
        other.alloc(0, 2);
        other.leave();
        Check.due("a block outlives the frame it was made in", 1, other.register(0, 2));
        Check.due("the next block is after it", 2, other.alloc(1, 1));
    }

    /** "THE STACK has at most 6 frames". */
    private static void sixFramesAndNoMore() {
        SafeMemory m = Scenes.sixFrames();
        Check.refused("a seventh frame", m, Check.STATE, m::enter);
        Check.due("frames", 6, m.count(2));
    }

    /** "a frame has LOCALS, numbered from 0, of 1 to 8 words each". */
    private static void localsHaveOneToEightWords() {
        SafeMemory m = new SafeMemory();
        m.enter();
        Check.due("a local of 1", 95, m.local(0, 1));
        Check.due("a local of 8", 87, m.local(0, 8));
        Check.refused("a local of 0", m, Check.ARGUMENT, () -> m.local(0, 0));
        Check.refused("a local of 9", m, Check.ARGUMENT, () -> m.local(0, 9));
        Check.due("number 0", 95, m.point(1, 0));
        Check.due("number 1", 87, m.point(1, 1));
        Check.refused("number -1", m, Check.OUTSIDE, () -> m.point(1, -1));
        Check.refused("number 2", m, Check.OUTSIDE, () -> m.point(1, 2));
    }

    /** "the first one at its highest addresses", in every frame. */
    private static void theFirstLocalIsHighest() {
        SafeMemory m = new SafeMemory();
        m.enter();
        Check.due("the first frame's first", 93, m.local(0, 3));
        Check.due("the first frame's second", 91, m.local(1, 2));
        m.enter();
        Check.due("the second frame's first", 90, m.local(2, 1));
        Check.due("the second frame's second", 86, m.local(3, 4));
        Check.due("the second frame's words", 5, m.leave());
        Check.due("the first frame's third", 90, m.local(4, 1));
    }

    /** "A word that comes into use with a block or a frame is 0 without tags.": a block where one was. */
    private static void aBlocksWordsBeginClear() {
        SafeMemory m = new SafeMemory();
        m.alloc(0, 3);
        storeNumbersAndPointers(m, 0, 3);
        m.free(0);
        m.alloc(2, 3);
        wordsAreClear("a block after a block", m, 2, 3);
        Check.due("no pointers in new words", 0, m.count(8));
        SafeMemory kept = new SafeMemory();
        kept.alloc(0, 3);
        storeNumbersAndPointers(kept, 0, 3);
        kept.alloc(2, 3);
        Check.due("an older block's words stay", 2, kept.count(8));
        Check.due("an older block's number stays", 8, kept.load(3, 0, 1));
    }

    /** "A word that comes into use with a block or a frame is 0 without tags.": a local where one was. */
    private static void aFramesWordsBeginClear() {
        SafeMemory m = new SafeMemory();
        m.enter();
        m.local(0, 3);
        storeNumbersAndPointers(m, 0, 3);
        m.leave();
        m.enter();
        Check.due("no pointers before the local", 0, m.count(8));
        m.local(2, 3);
        wordsAreClear("a local after a local", m, 2, 3);
        storeNumbersAndPointers(m, 2, 3);
        m.local(3, 3);
        Check.due("an older local's words stay", 2, m.count(8));
        Check.due("an older local's number stays", 8, m.load(4, 2, 1));
    }

    /** "A word that comes into use with a block or a frame is 0 without tags.": from one kind to the other. */
    private static void wordsPassClearBetweenBlocksAndFrames() {
        SafeMemory m = new SafeMemory();
        for (int r = 2; r < 6; r++) {
            m.alloc(r, 24);
        }
        m.move(0, 5);
        storeNumbersAndPointers(m, 0, 24);
        m.free(5);
        m.enter();
        for (int i = 0; i < 3; i++) {
            m.local(6, 8);
            wordsAreClear("a local after a block", m, 6, 8);
            storeNumbersAndPointers(m, 6, 8);
        }
        m.leave();
        m.alloc(5, 24);
        wordsAreClear("a block after locals", m, 5, 24);
    }

    /** "A word that comes into use with a block or a frame is 0": those in use before keep what they hold. */
    private static void wordsInUseStayAsTheyAre() {
        SafeMemory m = new SafeMemory();
        m.alloc(0, 24);
        m.alloc(2, 24);
        m.enter();
        m.local(3, 8);
        int[] sizes = {24, 0, 24, 8};
        for (int pointer : new int[] {0, 2, 3}) {
            storeNumbersAndPointers(m, pointer, sizes[pointer]);
        }
        m.local(4, 8);
        m.alloc(5, 24);
        m.enter();
        m.local(4, 1);
        m.alloc(5, 1);
        for (int pointer : new int[] {0, 2, 3}) {
            for (int offset = 0; offset < sizes[pointer]; offset++) {
                boolean tagged = offset % 2 == 0;
                Check.due("its number", tagged ? m.register(pointer, 0) : 8, m.load(7, pointer, offset));
                Check.due("its tags", tagged ? sizes[pointer] : 0, m.register(7, 3));
            }
        }
    }

    private static void storeNumbersAndPointers(SafeMemory m, int pointer, int n) {
        m.set(1, 8);
        for (int offset = 0; offset < n; offset++) {
            m.store(pointer, offset, offset % 2 == 0 ? pointer : 1);
        }
    }

    private static void wordsAreClear(String what, SafeMemory m, int pointer, int n) {
        for (int offset = 0; offset < n; offset++) {
            Check.due(what + ", its number", 0, m.load(7, pointer, offset));
            Check.due(what + ", its tags", 0, m.register(7, 1));
        }
    }

    /** "An ACCESS by a pointer in a register with an offset goes to the address of its number plus the offset". */
    private static void anAccessGoesToNumberPlusOffset() {
        SafeMemory m = new SafeMemory();
        m.alloc(0, 5);
        for (int offset = 0; offset < 5; offset++) {
            m.set(1, 10 + offset);
            m.store(0, offset, 1);
        }
        for (int number : new int[] {-7, 0, 2, 4, 5, 50}) {
            m.add(0, number - m.register(0, 0));
            for (int address = 0; address < 5; address++) {
                Check.due("from " + number + " to " + address, 10 + address, m.load(1, 0, address - number));
            }
        }
    }

    /** "the register has no tags: UnsupportedOperationException", whatever its number is. */
    private static void anAccessWithoutTags() {
        SafeMemory m = Scenes.aliveAndOver();
        for (int value : new int[] {4, 0, -1, 96, LEAST, MOST}) {
            m.set(3, value);
            Check.tested("by the number " + value, m, Check.UNTAGGED, () -> m.load(4, 3, 0));
        }
        m.move(3, 0);
        m.set(3, 4);
        Check.tested("by what was a pointer", m, Check.UNTAGGED, () -> m.store(3, 0, 2));
    }

    /** "it is not ALIVE: IllegalStateException", also if its words are in use again. */
    private static void anAccessToWhatIsOver() {
        SafeMemory m = Scenes.aliveAndOver();
        Check.tested("of a freed block", m, Check.STATE, () -> m.load(3, 1, 0));
        m.alloc(4, 4);
        Check.due("the same words", 1, m.same(1, 4));
        Check.tested("of words in use again", m, Check.STATE, () -> m.load(3, 1, 0));
        m.enter();
        m.local(5, 2);
        m.leave();
        Check.tested("of a closed frame", m, Check.STATE, () -> m.load(3, 5, 0));
    }

    /** "the address is not from BASE to BOUND - 1: IndexOutOfBoundsException": just inside, and just outside. */
    private static void anAccessOutsideOfTheBounds() {
        SafeMemory m = Scenes.aliveAndOver();
        m.alloc(1, 4);
        Check.tested("at BASE - 1", m, Check.OUTSIDE, () -> m.load(3, 0, -1));
        Check.due("at BASE", 0, m.load(3, 0, 0));
        Check.due("at BOUND - 1", 0, m.load(3, 0, 3));
        Check.tested("at BOUND", m, Check.OUTSIDE, () -> m.load(3, 0, 4));
        m.add(0, 4);
        Check.tested("a number at BOUND", m, Check.OUTSIDE, () -> m.load(3, 0, 0));
        Check.due("a number at BOUND, back to BASE", 0, m.load(3, 0, -4));
        m.add(0, -5);
        Check.tested("a number at BASE - 1", m, Check.OUTSIDE, () -> m.load(3, 0, 0));
        Check.due("a number at BASE - 1, on to BOUND - 1", 0, m.load(3, 0, 4));
    }

    /** "it is TESTED: the register has no tags: ...; it is not ALIVE: ...; the address is not from BASE ...", in this order. */
    private static void accessesAreTestedInOrder() {
        SafeMemory m = Scenes.aliveAndOver();
        Check.tested("no tags, and outside", m, Check.UNTAGGED, () -> m.load(3, 2, 900));
        Check.tested("over, and outside", m, Check.STATE, () -> m.load(3, 1, 900));
        Check.tested("over, and below", m, Check.STATE, () -> m.store(1, -1, 3));
        Check.tested("outside alone", m, Check.OUTSIDE, () -> m.load(3, 0, 900));
    }

    /** "(Every test that throws is counted by its kind.)": the first one ends the call. */
    private static void oneThrowIsOneTest() {
        SafeMemory m = Scenes.aliveAndOver();
        Check.tested("a copy with both ends outside", m, Check.OUTSIDE, () -> m.copy(0, 0, 5));
        m.add(0, 50);
        Check.tested("a copy with both words outside", m, Check.OUTSIDE, () -> m.copy(0, 0, 2));
        Check.tested("a narrow with both words outside", m, Check.OUTSIDE, () -> m.narrow(0, 0, 2));
        Check.tested("a copy by two that are over", m, Check.STATE, () -> m.copy(1, 1, 2));
        Check.tested("a copy by two numbers", m, Check.UNTAGGED, () -> m.copy(2, 2, 2));
    }

    /** "What is thrown otherwise is told in the order of testing, and before these". */
    private static void otherThrowsComeBeforeTests() {
        SafeMemory m = Scenes.aliveAndOver();
        for (int r = 0; r < 3; r++) {
            int pointer = r;
            Check.refused("load", m, Check.ARGUMENT, () -> m.load(3, pointer, 1001));
            Check.refused("copy", m, Check.ARGUMENT, () -> m.copy(pointer, pointer, 25));
            Check.refused("narrow's offset", m, Check.ARGUMENT, () -> m.narrow(pointer, -1001, 1));
            Check.refused("narrow's n", m, Check.ARGUMENT, () -> m.narrow(pointer, 0, 25));
        }
        SafeMemory full = Scenes.noRoom();
        Check.refused("alloc's n before its room", full, Check.ARGUMENT, () -> full.alloc(0, 0));
        Check.refused("local's n before its frame", full, Check.ARGUMENT, () -> full.local(0, 0));
        full.enter();
        Check.refused("local's n before its room", full, Check.ARGUMENT, () -> full.local(0, 9));
    }

    /** "Numbers of registers are 0 .. 7: else IllegalArgumentException": in every place of every call. */
    private static void registersAre0To7() {
        for (int bad : new int[] {-1, 8, LEAST, MOST}) {
            SafeMemory m = new SafeMemory();
            m.alloc(1, 2);
            m.enter();
            m.local(0, 1);
            Check.refused("set", m, Check.ARGUMENT, () -> m.set(bad, 1));
            Check.refused("move to", m, Check.ARGUMENT, () -> m.move(bad, 0));
            Check.refused("move from", m, Check.ARGUMENT, () -> m.move(0, bad));
            Check.refused("alloc", m, Check.ARGUMENT, () -> m.alloc(bad, 1));
            Check.refused("free", m, Check.ARGUMENT, () -> m.free(bad));
            Check.refused("add", m, Check.ARGUMENT, () -> m.add(bad, 1));
            Check.refused("load", m, Check.ARGUMENT, () -> m.load(bad, 0, 0));
            Check.refused("load by", m, Check.ARGUMENT, () -> m.load(0, bad, 0));
            Check.refused("store by", m, Check.ARGUMENT, () -> m.store(bad, 0, 0));
            Check.refused("store", m, Check.ARGUMENT, () -> m.store(0, 0, bad));
            Check.refused("copy to", m, Check.ARGUMENT, () -> m.copy(bad, 0, 1));
            Check.refused("copy from", m, Check.ARGUMENT, () -> m.copy(0, bad, 1));
            Check.refused("narrow", m, Check.ARGUMENT, () -> m.narrow(bad, 0, 1));
            Check.refused("local", m, Check.ARGUMENT, () -> m.local(bad, 1));
            Check.refused("point", m, Check.ARGUMENT, () -> m.point(bad, 0));
            Check.refused("same first", m, Check.ARGUMENT, () -> m.same(bad, 0));
            Check.refused("same second", m, Check.ARGUMENT, () -> m.same(0, bad));
            Check.refused("register", m, Check.ARGUMENT, () -> m.register(bad, 0));
        }
        SafeMemory m = new SafeMemory();
        for (int r = 0; r < 8; r++) {
            Check.due("set " + r, 0, m.set(r, r));
            Check.due("same " + r, 1, m.same(r, r));
        }
    }

    /** "else IllegalArgumentException, first of all": all else in these calls would throw another kind, or nothing. */
    private static void registersComeFirstOfAll() {
        for (int bad : new int[] {-1, 8}) {
            SafeMemory m = Scenes.noRoom();
            m.free(0);
            m.alloc(4, 24);
            m.set(1, 0);
            Check.refused("alloc without room", m, Check.ARGUMENT, () -> m.alloc(bad, 1));
            Check.refused("local without a frame", m, Check.ARGUMENT, () -> m.local(bad, 1));
            Check.refused("point without a frame", m, Check.ARGUMENT, () -> m.point(bad, 0));
            Check.refused("load by a number", m, Check.ARGUMENT, () -> m.load(bad, 1, 0));
            Check.refused("load by what is over", m, Check.ARGUMENT, () -> m.load(bad, 0, 0));
            Check.refused("load outside", m, Check.ARGUMENT, () -> m.load(bad, 2, 24));
            Check.refused("store by a number", m, Check.ARGUMENT, () -> m.store(1, 0, bad));
            Check.refused("store by what is over", m, Check.ARGUMENT, () -> m.store(0, 0, bad));
            Check.refused("store outside", m, Check.ARGUMENT, () -> m.store(2, 24, bad));
            Check.refused("copy from a number", m, Check.ARGUMENT, () -> m.copy(bad, 1, 1));
            Check.refused("copy to what is over", m, Check.ARGUMENT, () -> m.copy(0, bad, 1));
            Check.refused("copy of nothing to", m, Check.ARGUMENT, () -> m.copy(bad, 2, 0));
            Check.refused("copy of nothing from", m, Check.ARGUMENT, () -> m.copy(2, bad, 0));
            m.enter();
            Check.refused("local without room", m, Check.ARGUMENT, () -> m.local(bad, 1));
            Check.refused("point without a local", m, Check.ARGUMENT, () -> m.point(bad, 0));
        }
    }

    /** "An object is used for at most 512 calls after it has been made": the last of them is answered as the first. */
    private static void anObjectIsGoodFor512Calls() {
        SafeMemory m = new SafeMemory();
        for (int pair = 0; pair < 255; pair++) {
            Check.due("alloc", 0, m.alloc(0, 24));
            Check.due("free", 24, m.free(0));
        }
        Check.due("call 511", 0, m.alloc(0, 24));
        Check.due("call 512", 256, m.register(0, 5));
        SafeMemory far = new SafeMemory();
        far.alloc(0, 1);
        for (int call = 2; call < 512; call++) {
            far.add(0, 1000);
        }
        Check.due("call 512, far off", 510000, far.register(0, 4));
        SafeMemory below = new SafeMemory();
        below.alloc(0, 1);
        for (int call = 2; call < 480; call++) {
            below.add(0, -1000);
        }
        Check.tested("far below", below, Check.OUTSIDE, () -> below.load(1, 0, -1000));
    }
}
