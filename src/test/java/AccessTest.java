/**
 * Promises 7 (load), 8 (store), 9 (copy) and 10 (narrow); the remark at each test quotes the words
 * that it tests.
 */
public final class AccessTest {
    private static final int LEAST = Integer.MIN_VALUE;
    private static final int MOST = Integer.MAX_VALUE;

    public static void main(String[] args) {
        loadTakesTags();
        loadOverItsOwnPointer();
        loadIsTested();
        loadTakesOffsetsUpTo1000();
        loadHasARangeOfOffsets();
        storeTakesTags();
        storeAnswersTheNumberBefore();
        storeOfAPointerIntoItsOwnBlock();
        storeIsTested();
        storeTestsThePointerAlone();
        storeHasNoRangeOfOffsets();
        copyTakesTags();
        copyTakesWordsBetweenBlocksAndFrames();
        copyReadsAllFirst();
        copyOntoItself();
        copyTakesUpTo24Words();
        copyHasARange();
        copyOfNothingTestsNothing();
        copyTestsFrom();
        copyTestsTo();
        copyTestsFromBeforeTo();
        copyOfOneWord();
        narrowMakesBounds();
        narrowToAllWords();
        narrowToOneWord();
        narrowAtTheEndsOfOffsets();
        narrowNeverWidens();
        narrowLeavesCopies();
        narrowHasRanges();
        narrowTestsTheFirst();
        narrowTestsTheLast();
        narrowIsTestedInOrder();
        Check.end();
    }

    /** Promise 7: "A register becomes what the word is that is ACCESSED by a pointer with an offset": "tags and all; answers its number." */
    private static void loadTakesTags() {
        SafeMemory m = new SafeMemory();
        m.alloc(0, 3);
        m.alloc(1, 5);
        m.add(1, 2);
        m.set(2, -77);
        m.store(0, 0, 1);
        m.store(0, 2, 2);
        Check.due("load a pointer", 5, m.load(3, 0, 0));
        Check.registerIs("a pointer", m, 3, 5, 1, 1, 5, 2, 2);
        Check.due("load a number over a pointer", -77, m.load(3, 0, 2));
        Check.registerIs("a number", m, 3, -77, 0, 0, 0, 0, 0);
        Check.due("load a word that nothing was stored to", 0, m.load(3, 0, 1));
        m.add(1, -2);
        m.free(1);
        Check.due("load a pointer that is over", 5, m.load(4, 0, 0));
        Check.registerIs("a pointer that is over", m, 4, 5, 1, 0, 5, 2, 2);
        Check.registerIs("the pointer stays", m, 0, 0, 1, 1, 3, 0, 1);
        Check.due("the word stays", 5, m.load(4, 0, 0));
    }

    /** Promise 7: "A register becomes what the word is": also the one whose pointer it was. */
    private static void loadOverItsOwnPointer() {
        SafeMemory m = new SafeMemory();
        m.alloc(1, 2);
        m.alloc(0, 3);
        m.set(2, 9);
        m.store(0, 1, 1);
        m.store(1, 1, 2);
        Check.due("a pointer", 0, m.load(0, 0, 1));
        Check.registerIs("a pointer", m, 0, 0, 1, 1, 2, 0, 1);
        Check.due("a number", 9, m.load(0, 0, 1));
        Check.registerIs("a number", m, 0, 9, 0, 0, 0, 0, 0);
    }

    /** Promise 7: "the word is that is ACCESSED": no tags, over, below BASE, at BOUND. */
    private static void loadIsTested() {
        SafeMemory m = Scenes.aliveAndOver();
        m.set(3, 6);
        Check.tested("no tags", m, Check.UNTAGGED, () -> m.load(3, 2, 4));
        Check.tested("over", m, Check.STATE, () -> m.load(3, 1, 0));
        Check.tested("below", m, Check.OUTSIDE, () -> m.load(3, 0, -1));
        Check.tested("above", m, Check.OUTSIDE, () -> m.load(3, 0, 4));
        Check.due("first", 0, m.load(4, 0, 0));
        Check.due("last", 0, m.load(4, 0, 3));
        Check.registerIs("the register stays", m, 3, 6, 0, 0, 0, 0, 0);
    }

    /** Promise 7: "with an offset (-1000 .. 1000)": both ends are in it. */
    private static void loadTakesOffsetsUpTo1000() {
        SafeMemory m = Scenes.aliveAndOver();
        m.set(3, 21);
        m.store(0, 1, 3);
        m.add(0, -999);
        Check.due("offset 1000", 21, m.load(4, 0, 1000));
        m.add(0, 1000);
        m.add(0, 1000);
        Check.due("offset -1000", 21, m.load(5, 0, -1000));
        Check.tested("offset 1000, no tags", m, Check.UNTAGGED, () -> m.load(1, 2, 1000));
        Check.tested("offset -1000, over", m, Check.STATE, () -> m.load(2, 1, -1000));
    }

    /** Promise 7: "IllegalArgumentException: also the offset.", even where a word of the block is. */
    private static void loadHasARangeOfOffsets() {
        SafeMemory m = Scenes.aliveAndOver();
        for (int offset : new int[] {1001, -1001, MOST, LEAST}) {
            for (int r = 0; r < 3; r++) {
                int pointer = r;
                Check.refused("offset " + offset, m, Check.ARGUMENT, () -> m.load(3, pointer, offset));
            }
        }
        m.add(0, -1000);
        Check.refused("offset 1001 to the block", m, Check.ARGUMENT, () -> m.load(3, 0, 1001));
        m.add(0, 1000);
        m.add(0, 1000);
        m.add(0, 1);
        Check.refused("offset -1001 to the block", m, Check.ARGUMENT, () -> m.load(3, 0, -1001));
    }

    /** Promise 8: "The word ACCESSED by a pointer with an offset becomes what the register is, tags and all". */
    private static void storeTakesTags() {
        SafeMemory m = Scenes.aliveAndOver();
        m.enter();
        m.local(5, 3);
        m.set(3, MOST);
        m.store(5, 0, 0);
        m.store(5, 1, 1);
        m.store(5, 2, 3);
        m.load(6, 5, 0);
        Check.registerIs("a pointer", m, 6, 4, 1, 1, 4, 0, 2);
        m.load(6, 5, 1);
        Check.registerIs("a pointer that is over", m, 6, 8, 1, 0, 4, 0, 3);
        m.load(6, 5, 2);
        Check.registerIs("a number", m, 6, MOST, 0, 0, 0, 0, 0);
        m.store(5, 0, 3);
        m.load(6, 5, 0);
        Check.registerIs("a number over a pointer", m, 6, MOST, 0, 0, 0, 0, 0);
        m.store(5, 2, 0);
        m.load(6, 5, 2);
        Check.registerIs("a pointer over a number", m, 6, 4, 1, 1, 4, 0, 2);
        Check.registerIs("the register stays", m, 0, 4, 1, 1, 4, 0, 2);
    }

    /** Promise 8: "answers what its number was." */
    private static void storeAnswersTheNumberBefore() {
        SafeMemory m = Scenes.aliveAndOver();
        m.set(3, LEAST);
        Check.due("at first", 0, m.store(0, 3, 3));
        Check.due("a number", LEAST, m.store(0, 3, 1));
        Check.due("a pointer's", 8, m.store(0, 3, 3));
        Check.due("another word", 0, m.store(0, 2, 3));
    }

    /** Promise 8: "becomes what the register is": also if that is the pointer itself. */
    private static void storeOfAPointerIntoItsOwnBlock() {
        SafeMemory m = Scenes.aliveAndOver();
        m.add(0, 2);
        Check.due("store", 0, m.store(0, 1, 0));
        m.load(3, 0, 1);
        Check.registerIs("load", m, 3, 6, 1, 1, 4, 2, 2);
        Check.due("a pointer alive", 1, m.count(9));
    }

    /** Promise 8: "The word ACCESSED by a pointer": no tags, over, below BASE, at BOUND. */
    private static void storeIsTested() {
        SafeMemory m = Scenes.aliveAndOver();
        m.alloc(4, 4);
        m.set(3, 6);
        Check.tested("no tags", m, Check.UNTAGGED, () -> m.store(2, 4, 3));
        Check.tested("over", m, Check.STATE, () -> m.store(1, 0, 3));
        Check.tested("below", m, Check.OUTSIDE, () -> m.store(0, -1, 3));
        Check.tested("above", m, Check.OUTSIDE, () -> m.store(0, 4, 3));
        for (int offset = 0; offset < 4; offset++) {
            Check.due("nothing was stored", 0, m.load(5, 4, offset));
            Check.due("nothing was stored", 0, m.load(5, 0, offset));
        }
        Check.due("first", 0, m.store(0, 0, 3));
        Check.due("last", 0, m.store(0, 3, 3));
    }

    /** Promise 8: "becomes what the register is": that one is not tested. */
    private static void storeTestsThePointerAlone() {
        SafeMemory m = Scenes.aliveAndOver();
        m.store(0, 0, 2);
        m.store(0, 1, 1);
        m.move(3, 0);
        m.add(3, 1000);
        m.store(0, 2, 3);
        for (int what = 5; what < 8; what++) {
            Check.due("no test threw", 0, m.count(what));
        }
    }

    /** Promise 8: "The word ACCESSED by a pointer with an offset": unlike load and narrow, it names no range. */
    private static void storeHasNoRangeOfOffsets() {
        SafeMemory m = Scenes.aliveAndOver();
        m.set(3, 6);
        for (int offset : new int[] {1001, -1001, MOST, LEAST}) {
            Check.tested("no tags, " + offset, m, Check.UNTAGGED, () -> m.store(2, offset, 3));
            Check.tested("over, " + offset, m, Check.STATE, () -> m.store(1, offset, 3));
            Check.tested("outside, " + offset, m, Check.OUTSIDE, () -> m.store(0, offset, 3));
        }
        m.add(0, -1000);
        Check.due("offset 1001 to the block", 0, m.store(0, 1001, 3));
        m.add(0, 1000);
        Check.due("what was stored", 6, m.load(4, 0, 1));
    }

    /** Promise 9: "Copies n (0 .. 24) words from where one pointer is to where another one is, tags and all": "answers n." */
    private static void copyTakesTags() {
        SafeMemory m = new SafeMemory();
        m.alloc(0, 5);
        m.alloc(1, 5);
        m.set(2, 31);
        for (int offset = 0; offset < 5; offset++) {
            m.store(1, offset, 2);
        }
        m.store(0, 2, 2);
        m.store(0, 3, 1);
        m.add(0, 1);
        m.add(1, 1);
        Check.due("copy", 3, m.copy(1, 0, 3));
        Check.due("the word before", 31, m.load(3, 1, -1));
        Check.due("the first", 0, m.load(3, 1, 0));
        Check.due("the second", 31, m.load(3, 1, 1));
        m.load(3, 1, 2);
        Check.registerIs("the third", m, 3, 5, 1, 1, 5, 0, 2);
        Check.due("the word after", 31, m.load(3, 1, 3));
        Check.due("the source stays", 31, m.load(3, 0, 1));
        Check.due("pointers in words", 2, m.count(8));
        Check.registerIs("to stays", m, 1, 6, 1, 1, 5, 1, 2);
        Check.registerIs("from stays", m, 0, 1, 1, 1, 5, 1, 1);
    }

    /** Promise 9: "from where one pointer is to where another one is": a block and a local, both ways. */
    private static void copyTakesWordsBetweenBlocksAndFrames() {
        SafeMemory m = new SafeMemory();
        m.alloc(0, 8);
        m.enter();
        m.local(1, 8);
        m.store(0, 7, 1);
        m.store(1, 0, 0);
        Check.due("to the local", 8, m.copy(1, 0, 8));
        m.load(3, 1, 7);
        Check.registerIs("the local's last word", m, 3, 88, 1, 1, 8, 0, 2);
        m.load(3, 1, 0);
        Check.registerIs("the local's first word", m, 3, 0, 0, 0, 0, 0, 0);
        m.store(1, 2, 0);
        Check.due("to the block", 3, m.copy(0, 1, 3));
        m.load(3, 0, 2);
        Check.registerIs("the block's third word", m, 3, 0, 1, 1, 8, 0, 1);
        Check.due("pointers in words", 4, m.count(8));
    }

    /** Promise 9: "as if all were read first": where the words overlap, upward and downward. */
    private static void copyReadsAllFirst() {
        for (int step : new int[] {1, 3, -1, -3}) {
            SafeMemory m = new SafeMemory();
            m.alloc(0, 24);
            for (int offset = 0; offset < 24; offset++) {
                m.set(1, 100 + offset);
                m.store(0, offset, offset == 12 ? 0 : 1);
            }
            m.move(2, 0);
            m.add(2, 5);
            m.move(3, 2);
            m.add(3, step);
            Check.due("copy by " + step, 15, m.copy(3, 2, 15));
            for (int offset = 0; offset < 24; offset++) {
                boolean copied = offset >= 5 + step && offset < 20 + step;
                int source = copied ? offset - step : offset;
                m.load(4, 0, offset);
                Check.due("by " + step + " at " + offset, source == 12 ? 0 : 100 + source, m.register(4, 0));
                Check.due("by " + step + " tags at " + offset, source == 12 ? 1 : 0, m.register(4, 1));
            }
        }
    }

    /** Promise 9: "as if all were read first": onto the same words, nothing changes. */
    private static void copyOntoItself() {
        SafeMemory m = Scenes.aliveAndOver();
        m.set(3, 13);
        m.store(0, 0, 3);
        m.store(0, 3, 1);
        Check.due("copy", 4, m.copy(0, 0, 4));
        Check.due("its first word", 13, m.load(4, 0, 0));
        m.load(4, 0, 3);
        Check.registerIs("its last word", m, 4, 8, 1, 0, 4, 0, 3);
    }

    /** Promise 9: "Copies n (0 .. 24) words": both ends are in it. */
    private static void copyTakesUpTo24Words() {
        SafeMemory m = new SafeMemory();
        m.alloc(0, 24);
        m.alloc(1, 24);
        m.set(2, 5);
        m.store(0, 0, 2);
        m.store(0, 23, 2);
        Check.due("copy of 0", 0, m.copy(1, 0, 0));
        Check.due("nothing is copied", 0, m.load(3, 1, 0));
        Check.due("copy of 24", 24, m.copy(1, 0, 24));
        Check.due("the first is copied", 5, m.load(3, 1, 0));
        Check.due("the last is copied", 5, m.load(3, 1, 23));
    }

    /** Promise 9: "IllegalArgumentException: also n." */
    private static void copyHasARange() {
        SafeMemory m = Scenes.aliveAndOver();
        for (int n : new int[] {-1, 25, LEAST, MOST}) {
            Check.refused("by numbers, " + n, m, Check.ARGUMENT, () -> m.copy(2, 3, n));
            Check.refused("by what is over, " + n, m, Check.ARGUMENT, () -> m.copy(1, 1, n));
            Check.refused("by what is alive, " + n, m, Check.ARGUMENT, () -> m.copy(0, 0, n));
        }
    }

    /** Promise 9: "For n above 0, ACCESSES ... are TESTED.": for n = 0, none. */
    private static void copyOfNothingTestsNothing() {
        SafeMemory m = Scenes.aliveAndOver();
        Check.due("no tags", 0, m.copy(2, 2, 0));
        Check.due("over", 0, m.copy(1, 1, 0));
        m.add(0, 500);
        Check.due("outside", 0, m.copy(0, 0, 0));
        for (int what = 5; what < 8; what++) {
            Check.due("no test threw", 0, m.count(what));
        }
    }

    /** Promise 9: "ACCESSES by "from" with 0 and n - 1": its first word and its last. */
    private static void copyTestsFrom() {
        SafeMemory m = Scenes.aliveAndOver();
        m.alloc(4, 24);
        Check.tested("no tags", m, Check.UNTAGGED, () -> m.copy(4, 2, 1));
        Check.tested("over", m, Check.STATE, () -> m.copy(4, 1, 1));
        Check.tested("the last at BOUND", m, Check.OUTSIDE, () -> m.copy(4, 0, 5));
        Check.due("the last at BOUND - 1", 4, m.copy(4, 0, 4));
        m.add(0, -1);
        Check.tested("the first at BASE - 1", m, Check.OUTSIDE, () -> m.copy(4, 0, 2));
        Check.tested("the first below, the last above", m, Check.OUTSIDE, () -> m.copy(4, 0, 6));
        m.add(0, 5);
        Check.tested("the first at BOUND", m, Check.OUTSIDE, () -> m.copy(4, 0, 1));
    }

    /** Promise 9: "then by "to" likewise": its first word and its last. */
    private static void copyTestsTo() {
        SafeMemory m = Scenes.aliveAndOver();
        m.alloc(4, 24);
        Check.tested("no tags", m, Check.UNTAGGED, () -> m.copy(2, 4, 1));
        Check.tested("over", m, Check.STATE, () -> m.copy(1, 4, 1));
        Check.tested("the last at BOUND", m, Check.OUTSIDE, () -> m.copy(0, 4, 5));
        Check.due("the last at BOUND - 1", 4, m.copy(0, 4, 4));
        m.add(0, -1);
        Check.tested("the first at BASE - 1", m, Check.OUTSIDE, () -> m.copy(0, 4, 2));
        Check.tested("the first below, the last above", m, Check.OUTSIDE, () -> m.copy(0, 4, 6));
        m.add(0, 5);
        Check.tested("the first at BOUND", m, Check.OUTSIDE, () -> m.copy(0, 4, 1));
    }

    /** Promise 9: "ACCESSES by "from" with 0 and n - 1, then by "to" likewise": every fault of "from" comes first. */
    private static void copyTestsFromBeforeTo() {
        SafeMemory m = Scenes.aliveAndOver();
        Check.tested("from has no tags, to is over", m, Check.UNTAGGED, () -> m.copy(1, 2, 1));
        Check.tested("from has no tags, to is too short", m, Check.UNTAGGED, () -> m.copy(0, 2, 5));
        Check.tested("from is over, to has no tags", m, Check.STATE, () -> m.copy(2, 1, 1));
        Check.tested("from is over, to is too short", m, Check.STATE, () -> m.copy(0, 1, 5));
        Check.tested("from is too short, to has no tags", m, Check.OUTSIDE, () -> m.copy(2, 0, 5));
        Check.tested("from is too short, to is over", m, Check.OUTSIDE, () -> m.copy(1, 0, 5));
    }

    /** Promise 9: "with 0 and n - 1": for n = 1 both are the same word. */
    private static void copyOfOneWord() {
        SafeMemory m = Scenes.aliveAndOver();
        m.set(3, 44);
        m.store(0, 3, 3);
        m.move(4, 0);
        m.add(4, 3);
        Check.due("copy", 1, m.copy(0, 4, 1));
        Check.due("its word", 44, m.load(5, 0, 0));
        Check.due("the next word", 0, m.load(5, 0, 1));
    }

    /** Promise 10: "The bounds of a pointer become the n (1 .. 24) words from its number plus the offset (-1000 .. 1000) on, and its number the first of them; answers it." */
    private static void narrowMakesBounds() {
        SafeMemory m = new SafeMemory();
        m.alloc(0, 2);
        m.alloc(1, 20);
        m.add(1, 10);
        Check.due("with an offset below", 7, m.narrow(1, -5, 6));
        Check.registerIs("with an offset below", m, 1, 7, 1, 1, 6, 0, 2);
        Check.due("with an offset above", 9, m.narrow(1, 2, 3));
        Check.registerIs("with an offset above", m, 1, 9, 1, 1, 3, 0, 2);
        Check.tested("below them", m, Check.OUTSIDE, () -> m.load(3, 1, -1));
        Check.due("the first", 0, m.load(3, 1, 0));
        Check.due("the last", 0, m.load(3, 1, 2));
        Check.tested("above them", m, Check.OUTSIDE, () -> m.load(3, 1, 3));
        m.enter();
        m.local(4, 8);
        Check.due("of a local", 90, m.narrow(4, 2, 5));
        Check.registerIs("of a local", m, 4, 90, 1, 1, 5, 0, 3);
        Check.due("no key is given", 3, m.count(4));
    }

    /** Promise 10: "the n (1 .. 24) words": 24 are in it, all of the largest block. */
    private static void narrowToAllWords() {
        SafeMemory m = new SafeMemory();
        m.alloc(0, 2);
        m.alloc(1, 24);
        Check.due("all of 24", 2, m.narrow(1, 0, 24));
        Check.registerIs("all of 24", m, 1, 2, 1, 1, 24, 0, 2);
        m.add(1, 30);
        Check.due("all of 24 from above", 2, m.narrow(1, -30, 24));
        Check.registerIs("all of 24 from above", m, 1, 2, 1, 1, 24, 0, 2);
    }

    /** Promise 10: "the n (1 .. 24) words": 1 is in it, the first or the last. */
    private static void narrowToOneWord() {
        SafeMemory m = Scenes.aliveAndOver();
        m.move(3, 0);
        Check.due("the first", 4, m.narrow(3, 0, 1));
        Check.registerIs("the first", m, 3, 4, 1, 1, 1, 0, 2);
        Check.due("the last", 7, m.narrow(0, 3, 1));
        Check.registerIs("the last", m, 0, 7, 1, 1, 1, 0, 2);
        Check.due("the only one again", 7, m.narrow(0, 0, 1));
    }

    /** Promise 10: "its number plus the offset (-1000 .. 1000)": both ends are in it. */
    private static void narrowAtTheEndsOfOffsets() {
        SafeMemory m = Scenes.aliveAndOver();
        m.add(0, -1000);
        Check.due("offset 1000", 4, m.narrow(0, 1000, 4));
        m.add(0, 1000);
        m.add(0, 1);
        Check.due("offset -1000", 5, m.narrow(0, -1000, 3));
        Check.tested("offset 1000 and the most n", m, Check.OUTSIDE, () -> m.narrow(0, 1000, 24));
        Check.tested("offset -1000 and the most n", m, Check.OUTSIDE, () -> m.narrow(0, -1000, 24));
    }

    /** Promise 10: "ACCESSES with the offset, and the offset plus n - 1, are TESTED before.": by the bounds it had. */
    private static void narrowNeverWidens() {
        SafeMemory m = Scenes.aliveAndOver();
        m.narrow(0, 1, 2);
        Check.tested("one more above", m, Check.OUTSIDE, () -> m.narrow(0, 0, 3));
        Check.tested("one more below", m, Check.OUTSIDE, () -> m.narrow(0, -1, 2));
        Check.tested("the block again", m, Check.OUTSIDE, () -> m.narrow(0, -1, 4));
        Check.registerIs("it stays", m, 0, 5, 1, 1, 2, 0, 2);
        Check.due("the same again", 5, m.narrow(0, 0, 2));
    }

    /** Promise 10: "The bounds of a pointer become": those of its copies stay. */
    private static void narrowLeavesCopies() {
        SafeMemory m = Scenes.aliveAndOver();
        m.move(3, 0);
        m.store(0, 0, 0);
        m.narrow(0, 1, 2);
        Check.registerIs("in a register", m, 3, 4, 1, 1, 4, 0, 2);
        m.load(4, 3, 0);
        Check.registerIs("in a word", m, 4, 4, 1, 1, 4, 0, 2);
    }

    /** Promise 10: "IllegalArgumentException: also n or offset." */
    private static void narrowHasRanges() {
        for (int r = 0; r < 3; r++) {
            int register = r;
            SafeMemory m = Scenes.aliveAndOver();
            for (int n : new int[] {0, -1, 25, LEAST, MOST}) {
                Check.refused("n " + n, m, Check.ARGUMENT, () -> m.narrow(register, 0, n));
            }
            for (int offset : new int[] {-1001, 1001, LEAST, MOST}) {
                Check.refused("offset " + offset, m, Check.ARGUMENT, () -> m.narrow(register, offset, 1));
            }
            m.add(register, -1000);
            Check.refused("offset 1001 to the block", m, Check.ARGUMENT, () -> m.narrow(register, 1001, 1));
        }
    }

    /** Promise 10: "ACCESSES with the offset": the first word, just inside and just outside. */
    private static void narrowTestsTheFirst() {
        SafeMemory m = Scenes.aliveAndOver();
        Check.tested("the first at BASE - 1", m, Check.OUTSIDE, () -> m.narrow(0, -1, 2));
        Check.tested("the first at BOUND", m, Check.OUTSIDE, () -> m.narrow(0, 4, 1));
        Check.tested("the first below, the last above", m, Check.OUTSIDE, () -> m.narrow(0, -1, 6));
        Check.registerIs("it stays", m, 0, 4, 1, 1, 4, 0, 2);
        Check.due("the first at BOUND - 1", 7, m.narrow(0, 3, 1));
    }

    /** Promise 10: "and the offset plus n - 1": the last word, just inside and just outside. */
    private static void narrowTestsTheLast() {
        SafeMemory m = Scenes.aliveAndOver();
        Check.tested("the last at BOUND", m, Check.OUTSIDE, () -> m.narrow(0, 2, 3));
        Check.tested("the last at BOUND, from the first on", m, Check.OUTSIDE, () -> m.narrow(0, 0, 5));
        Check.registerIs("it stays", m, 0, 4, 1, 1, 4, 0, 2);
        Check.due("the last at BOUND - 1", 6, m.narrow(0, 2, 2));
    }

    /** Promise 10: "are TESTED before": no tags, then over, then outside. */
    private static void narrowIsTestedInOrder() {
        SafeMemory m = Scenes.aliveAndOver();
        Check.tested("no tags", m, Check.UNTAGGED, () -> m.narrow(2, 4, 1));
        Check.tested("no tags, and outside", m, Check.UNTAGGED, () -> m.narrow(2, 900, 1));
        Check.tested("over", m, Check.STATE, () -> m.narrow(1, 0, 1));
        Check.tested("over, and outside", m, Check.STATE, () -> m.narrow(1, 4, 1));
        Check.registerIs("what is over stays", m, 1, 8, 1, 0, 4, 0, 3);
    }
}
