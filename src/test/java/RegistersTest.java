/**
 * Promises 1 (a new object), 2 (set), 3 (move), 6 (add), 15 (same) and 16 (register); the remark at
 * each test quotes the words that it tests. Numbers of registers out of range: TermsTest.
 */
public final class RegistersTest {
    private static final int LEAST = Integer.MIN_VALUE;
    private static final int MOST = Integer.MAX_VALUE;

    public static void main(String[] args) {
        aNewObject();
        objectsAreApart();
        setMakesANumber();
        setAnswersTheNumberBefore();
        setTakesTagsAway();
        moveTakesTags();
        moveTakesANumber();
        moveOntoItself();
        moveOfWhatIsOver();
        addAnswersTheSum();
        addTakesUpTo1000();
        addWraps();
        addKeepsTags();
        addHasARange();
        sameNumbers();
        sameMindsNoTags();
        sameAtTheEnds();
        registerOfANumber();
        registerOfAPointer();
        registerOfWhatIsOver();
        registerOfNarrowBounds();
        registerOutsideOfItsBounds();
        registerWithAnotherWhat();
        Check.end();
    }

    /** Promise 1: "makes an object in the state that the terms give." */
    private static void aNewObject() {
        SafeMemory m = new SafeMemory();
        for (int r = 0; r < 8; r++) {
            Check.registerIs("new", m, r, 0, 0, 0, 0, 0, 0);
        }
        int[] counts = {0, 96, 0, 0, 0, 0, 0, 0, 0, 0};
        for (int what = 0; what < counts.length; what++) {
            Check.due("new: count(" + what + ")", counts[what], m.count(what));
        }
        Check.refused("new: no frame to leave", m, Check.STATE, m::leave);
        Check.refused("new: no frame for a local", m, Check.STATE, () -> m.local(0, 1));
        Check.tested("new: nothing to free", m, Check.UNTAGGED, () -> m.free(0));
        Check.due("new: the first block", 0, m.alloc(0, 1));
        Check.due("new: the first key", 1, m.register(0, 5));
    }

    /** Promise 1: "makes an object in the state that the terms give.": whatever another object is in. */
    private static void objectsAreApart() {
        SafeMemory one = new SafeMemory();
        one.alloc(0, 5);
        one.enter();
        one.store(0, 0, 0);
        Check.tested("a test of one", one, Check.OUTSIDE, () -> one.load(1, 0, 5));
        SafeMemory other = new SafeMemory();
        int[] counts = {0, 96, 0, 0, 0, 0, 0, 0, 0, 0};
        for (int what = 0; what < counts.length; what++) {
            Check.due("apart: count(" + what + ")", counts[what], other.count(what));
        }
        Check.registerIs("apart", other, 0, 0, 0, 0, 0, 0, 0);
        Check.due("apart: its first block", 0, other.alloc(7, 5));
        Check.due("apart: its first key", 1, other.register(7, 5));
        Check.due("apart: its first word", 0, other.load(6, 7, 0));
    }

    /** Promise 2: "The register becomes a number without tags": any int. */
    private static void setMakesANumber() {
        SafeMemory m = new SafeMemory();
        for (int value : new int[] {17, 0, -1, LEAST, MOST}) {
            m.set(3, value);
            Check.registerIs("set to " + value, m, 3, value, 0, 0, 0, 0, 0);
        }
        Check.registerIs("set leaves the others", m, 2, 0, 0, 0, 0, 0, 0);
        Check.registerIs("set leaves the others", m, 4, 0, 0, 0, 0, 0, 0);
    }

    /** Promise 2: "answers what its number was." */
    private static void setAnswersTheNumberBefore() {
        SafeMemory m = new SafeMemory();
        Check.due("at first", 0, m.set(3, 17));
        Check.due("a number", 17, m.set(3, LEAST));
        Check.due("the least", LEAST, m.set(3, MOST));
        Check.due("the most", MOST, m.set(3, 0));
        m.alloc(0, 5);
        m.alloc(3, 2);
        m.add(3, 7);
        Check.due("a pointer's number", 12, m.set(3, 1));
    }

    /** Promise 2: "The register becomes a number without tags": of a pointer, alive or over. */
    private static void setTakesTagsAway() {
        SafeMemory m = Scenes.aliveAndOver();
        m.move(3, 0);
        Check.due("set an alive pointer", 4, m.set(0, 4));
        Check.registerIs("set an alive pointer", m, 0, 4, 0, 0, 0, 0, 0);
        Check.tested("a number like the pointer's", m, Check.UNTAGGED, () -> m.load(4, 0, 0));
        Check.due("set one that is over", 8, m.set(1, 8));
        Check.registerIs("set one that is over", m, 1, 8, 0, 0, 0, 0, 0);
        Check.registerIs("its copy stays", m, 3, 4, 1, 1, 4, 0, 2);
        Check.due("set frees nothing", 2, m.count(0));
    }

    /** Promise 3: "A register becomes what another one is, tags and all; answers its number." */
    private static void moveTakesTags() {
        SafeMemory m = new SafeMemory();
        m.alloc(0, 3);
        m.alloc(1, 4);
        m.add(1, 2);
        m.set(7, 70);
        Check.due("move a pointer", 5, m.move(7, 1));
        Check.registerIs("to", m, 7, 5, 1, 1, 4, 2, 2);
        Check.registerIs("from", m, 1, 5, 1, 1, 4, 2, 2);
        Check.due("move a pointer over a pointer", 0, m.move(7, 0));
        Check.registerIs("to", m, 7, 0, 1, 1, 3, 0, 1);
        m.add(7, 1);
        Check.registerIs("the two are apart", m, 0, 0, 1, 1, 3, 0, 1);
        Check.due("moves give no key", 2, m.count(4));
    }

    /** Promise 3: "A register becomes what another one is": without tags, if that has none. */
    private static void moveTakesANumber() {
        SafeMemory m = new SafeMemory();
        m.alloc(7, 3);
        m.set(2, -6);
        Check.due("move a number", -6, m.move(7, 2));
        Check.registerIs("to", m, 7, -6, 0, 0, 0, 0, 0);
        Check.registerIs("from", m, 2, -6, 0, 0, 0, 0, 0);
    }

    /** Promise 3: "A register becomes what another one is": also if it is the same one. */
    private static void moveOntoItself() {
        SafeMemory m = new SafeMemory();
        m.alloc(0, 3);
        m.alloc(1, 4);
        m.add(1, 2);
        Check.due("move a pointer onto itself", 5, m.move(1, 1));
        Check.registerIs("a pointer", m, 1, 5, 1, 1, 4, 2, 2);
        m.set(7, MOST);
        Check.due("move a number onto itself", MOST, m.move(7, 7));
        Check.registerIs("a number", m, 7, MOST, 0, 0, 0, 0, 0);
    }

    /** Promise 3: "tags and all": a pointer that is over is moved untested. */
    private static void moveOfWhatIsOver() {
        SafeMemory m = Scenes.aliveAndOver();
        m.add(1, -100);
        Check.due("move", -92, m.move(0, 1));
        Check.registerIs("to", m, 0, -92, 1, 0, 4, -100, 3);
        Check.due("no test threw", 0, m.count(6));
    }

    /** Promise 6: "Adds k (-1000 .. 1000) to a register's number": "answers the sum." */
    private static void addAnswersTheSum() {
        SafeMemory m = new SafeMemory();
        Check.due("add 5", 5, m.add(0, 5));
        Check.due("add 0", 5, m.add(0, 0));
        Check.due("add -12", -7, m.add(0, -12));
        Check.registerIs("after them", m, 0, -7, 0, 0, 0, 0, 0);
    }

    /** Promise 6: "Adds k (-1000 .. 1000)": both ends are in it. */
    private static void addTakesUpTo1000() {
        SafeMemory m = new SafeMemory();
        Check.due("add 1000", 1000, m.add(0, 1000));
        Check.due("add 1000 again", 2000, m.add(0, 1000));
        Check.due("add -1000", 1000, m.add(0, -1000));
    }

    /** Promise 6: "(wrapping)", upward and downward. */
    private static void addWraps() {
        SafeMemory m = new SafeMemory();
        m.set(1, MOST);
        Check.due("the most and 1", LEAST, m.add(1, 1));
        Check.due("the least and -1", MOST, m.add(1, -1));
        Check.due("the most and 1000", LEAST + 999, m.add(1, 1000));
        Check.due("back over the end", MOST, m.add(1, -1000));
        Check.registerIs("after them", m, 1, MOST, 0, 0, 0, 0, 0);
    }

    /** Promise 6: "its tags staying", be it alive, over, or outside of its bounds. */
    private static void addKeepsTags() {
        SafeMemory m = Scenes.aliveAndOver();
        Check.due("above", 1004, m.add(0, 1000));
        Check.registerIs("above", m, 0, 1004, 1, 1, 4, 1000, 2);
        m.add(0, -1000);
        Check.due("below", -3, m.add(0, -7));
        Check.registerIs("below", m, 0, -3, 1, 1, 4, -7, 2);
        Check.due("over", 9, m.add(1, 1));
        Check.registerIs("over", m, 1, 9, 1, 0, 4, 1, 3);
    }

    /** Promise 6: "IllegalArgumentException: also k out of range." */
    private static void addHasARange() {
        SafeMemory m = Scenes.aliveAndOver();
        for (int k : new int[] {1001, -1001, MOST, LEAST}) {
            for (int r = 0; r < 3; r++) {
                int register = r;
                Check.refused("add " + k, m, Check.ARGUMENT, () -> m.add(register, k));
            }
        }
        Check.registerIs("after them", m, 0, 4, 1, 1, 4, 0, 2);
    }

    /** Promise 15: "Whether two registers have the same number: 1, else 0." */
    private static void sameNumbers() {
        SafeMemory m = new SafeMemory();
        Check.due("zeroes", 1, m.same(0, 7));
        m.set(1, 1);
        Check.due("0 and 1", 0, m.same(0, 1));
        Check.due("1 and 0", 0, m.same(1, 0));
        Check.due("itself", 1, m.same(1, 1));
        m.set(2, 1);
        Check.due("1 and 1", 1, m.same(1, 2));
    }

    /** Promise 15: "have the same number": tags do not matter. */
    private static void sameMindsNoTags() {
        SafeMemory m = Scenes.aliveAndOver();
        m.set(3, 4);
        Check.due("a pointer and a number", 1, m.same(0, 3));
        m.move(4, 1);
        m.alloc(5, 4);
        Check.due("alive and over", 1, m.same(4, 5));
        m.add(0, 4);
        Check.due("pointers of two blocks", 1, m.same(0, 5));
        m.move(6, 5);
        m.add(6, 1);
        Check.due("pointers of one block", 0, m.same(5, 6));
        for (int what = 5; what < 8; what++) {
            Check.due("no test threw", 0, m.count(what));
        }
    }

    /** Promise 15: "have the same number": the ends of the ints are apart. */
    private static void sameAtTheEnds() {
        SafeMemory m = new SafeMemory();
        m.set(0, LEAST);
        m.set(1, MOST);
        m.set(2, LEAST);
        Check.due("least and most", 0, m.same(0, 1));
        Check.due("least and 0", 0, m.same(0, 3));
        Check.due("least and least", 1, m.same(0, 2));
    }

    /** Promise 16: "1 if it is a pointer (1)": "0 without tags (3)", "0 without (4)", "0 without (5)". */
    private static void registerOfANumber() {
        SafeMemory m = new SafeMemory();
        m.alloc(2, 5);
        m.alloc(2, 5);
        for (int value : new int[] {12, 0, -1, LEAST, MOST}) {
            m.set(2, value);
            Check.registerIs("a number", m, 2, value, 0, 0, 0, 0, 0);
        }
    }

    /** Promise 16: "its number (0), 1 if it is a pointer (1), 1 if it is one that is ALIVE (2), BOUND less BASE, 0 without tags (3), its number less BASE, 0 without (4), its key, 0 without (5)." */
    private static void registerOfAPointer() {
        SafeMemory m = new SafeMemory();
        m.alloc(0, 6);
        m.alloc(1, 9);
        m.add(1, 4);
        Check.registerIs("a pointer", m, 1, 10, 1, 1, 9, 4, 2);
        m.alloc(2, 1);
        Check.registerIs("of the least size", m, 2, 15, 1, 1, 1, 0, 3);
        m.alloc(3, 24);
        Check.registerIs("of the largest size", m, 3, 16, 1, 1, 24, 0, 4);
    }

    /** Promise 16: "1 if it is one that is ALIVE (2)": else 0, and the rest stays. */
    private static void registerOfWhatIsOver() {
        SafeMemory m = Scenes.aliveAndOver();
        m.add(1, 2);
        Check.registerIs("over", m, 1, 10, 1, 0, 4, 2, 3);
        m.enter();
        m.local(3, 5);
        m.leave();
        Check.registerIs("a local that is over", m, 3, 91, 1, 0, 5, 0, 4);
    }

    /** Promise 16: "BOUND less BASE, 0 without tags (3), its number less BASE, 0 without (4)": of narrow bounds. */
    private static void registerOfNarrowBounds() {
        SafeMemory m = Scenes.aliveAndOver();
        m.narrow(0, 1, 2);
        m.add(0, 1);
        Check.registerIs("narrow", m, 0, 6, 1, 1, 2, 1, 2);
    }

    /** Promise 16: "its number less BASE, 0 without (4)": below 0, or above the size. */
    private static void registerOutsideOfItsBounds() {
        SafeMemory m = Scenes.aliveAndOver();
        m.add(0, -10);
        Check.registerIs("below", m, 0, -6, 1, 1, 4, -10, 2);
        m.add(0, 1000);
        Check.registerIs("above", m, 0, 994, 1, 1, 4, 990, 2);
    }

    /** Promise 16: "IllegalArgumentException: also another what." */
    private static void registerWithAnotherWhat() {
        SafeMemory m = Scenes.aliveAndOver();
        for (int what : new int[] {-1, 6, LEAST, MOST}) {
            for (int r = 0; r < 3; r++) {
                int register = r;
                Check.refused("what " + what, m, Check.ARGUMENT, () -> m.register(register, what));
            }
        }
    }
}
