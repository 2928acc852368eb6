/**
 * A memory of 96 words with blocks, frames and eight registers, in which every access is tested by
 * what is known of the pointer that makes it: its bounds, and the lock and key that tell whether
 * what it points to is over.
 */
public final class SafeMemory {
    private static final int WORDS = 96;
    private static final int REGISTERS = 8;
    private static final int LOCKS = 40;
    private static final int MOST_FRAMES = 6;
    private static final int MOST_BLOCK_WORDS = 24;
    private static final int MOST_LOCAL_WORDS = 8;
    private static final int FARTHEST = 1000;
    private static final int NO_ROOM = -1;

    private final Cells words;
    private final Cells registers;
    private final Locks locks;
    private final Heap heap;
    private final Frames frames;
    private int untaggedTests;
    private int overTests;
    private int outsideTests;

    public SafeMemory() {
        words = new Cells(WORDS);
        registers = new Cells(REGISTERS);
        locks = new Locks();
        heap = new Heap();
        frames = new Frames();
    }

    public int set(int register, int value) throws IllegalArgumentException {
        checkRegister(register);
        int before = registers.number[register];
        registers.makeNumber(register, value);
        return before;
    }

    public int move(int to, int from) throws IllegalArgumentException {
        checkRegister(to);
        checkRegister(from);
        registers.take(to, registers, from);
        return registers.number[to];
    }

    public int alloc(int register, int n) throws IllegalArgumentException, IllegalStateException {
        checkRegister(register);
        checkRange(n, 1, MOST_BLOCK_WORDS);
        int address = heap.roomFor(n, frames.top);
        if (address == NO_ROOM || !locks.anyLeft()) {
            throw new IllegalStateException("no room or no lock for a block");
        }
        int lock = locks.takeNew();
        int key = locks.held[lock];
        heap.takeBlock(address, n, key);
        words.clear(address, n);
        registers.makePointer(register, address, n, lock, key);
        return address;
    }

    public int free(int register) throws IllegalArgumentException, UnsupportedOperationException,
            IllegalStateException, IndexOutOfBoundsException {
        checkRegister(register);
        testAlive(register);
        int address = registers.number[register];
        if (!heap.hasBlockAt(address, registers.key[register])) {
            outsideTests++;
            throw new IndexOutOfBoundsException("not the first address of the pointer's block");
        }
        locks.letGo(registers.lock[register]);
        return heap.giveBack(address);
    }

    public int add(int register, int k) throws IllegalArgumentException {
        checkRegister(register);
        checkRange(k, -FARTHEST, FARTHEST);
        registers.number[register] += k;
        return registers.number[register];
    }

    public int load(int register, int pointer, int offset) throws IllegalArgumentException,
            UnsupportedOperationException, IllegalStateException, IndexOutOfBoundsException {
        checkRegister(register);
        checkRegister(pointer);
        checkRange(offset, -FARTHEST, FARTHEST);
        int address = testAccess(pointer, offset);
        registers.take(register, words, address);
        return registers.number[register];
    }

    // The document gives load and narrow a range of offsets, but store none.
    public int store(int pointer, int offset, int register) throws IllegalArgumentException,
            UnsupportedOperationException, IllegalStateException, IndexOutOfBoundsException {
        checkRegister(pointer);
        checkRegister(register);
        int address = testAccess(pointer, offset);
        int before = words.number[address];
        words.take(address, registers, register);
        return before;
    }

    public int copy(int to, int from, int n) throws IllegalArgumentException,
            UnsupportedOperationException, IllegalStateException, IndexOutOfBoundsException {
        checkRegister(to);
        checkRegister(from);
        checkRange(n, 0, MOST_BLOCK_WORDS);
        if (n > 0) {
            int source = testAccesses(from, 0, n);
            int target = testAccesses(to, 0, n);
            words.copyWithin(target, source, n);
        }
        return n;
    }

    public int narrow(int register, int offset, int n) throws IllegalArgumentException,
            UnsupportedOperationException, IllegalStateException, IndexOutOfBoundsException {
        checkRegister(register);
        checkRange(offset, -FARTHEST, FARTHEST);
        checkRange(n, 1, MOST_BLOCK_WORDS);
        int first = testAccesses(register, offset, n);
        registers.makePointer(register, first, n, registers.lock[register], registers.key[register]);
        return first;
    }

    public int enter() throws IllegalStateException {
        if (frames.count == MOST_FRAMES || !locks.anyLeft()) {
            throw new IllegalStateException("no room or no lock for a frame");
        }
        int lock = locks.takeNew();
        frames.open(lock, locks.held[lock]);
        return frames.count;
    }

    public int local(int register, int n) throws IllegalArgumentException, IllegalStateException {
        checkRegister(register);
        checkRange(n, 1, MOST_LOCAL_WORDS);
        checkFrame();
        int address = frames.top - n;
        if (address < 0 || !heap.isFree(address, n)) {
            throw new IllegalStateException("no room for a local");
        }
        frames.addLocal(n);
        words.clear(address, n);
        return pointToLocal(register, frames.locals - 1);
    }

    public int point(int register, int number) throws IllegalArgumentException,
            IllegalStateException, IndexOutOfBoundsException {
        checkRegister(register);
        checkFrame();
        int first = frames.firstLocal[frames.count - 1];
        if (number < 0 || number >= frames.locals - first) {
            throw new IndexOutOfBoundsException("no such local");
        }
        return pointToLocal(register, first + number);
    }

    public int leave() throws IllegalStateException {
        checkFrame();
        locks.letGo(frames.lock[frames.count - 1]);
        return frames.close();
    }

    public int same(int first, int second) throws IllegalArgumentException {
        checkRegister(first);
        checkRegister(second);
        return oneIf(registers.number[first] == registers.number[second]);
    }

    public int register(int register, int what) throws IllegalArgumentException {
        checkRegister(register);
        boolean tagged = registers.isPointer(register);
        switch (what) {
            case 0:
                return registers.number[register];
            case 1:
                return oneIf(tagged);
            case 2:
                return oneIf(isAlive(registers, register));
            case 3:
                return tagged ? registers.bound[register] - registers.base[register] : 0;
            case 4:
                return tagged ? registers.number[register] - registers.base[register] : 0;
            case 5:
                return registers.key[register];
            default:
                throw new IllegalArgumentException("nothing of a register has this number");
        }
    }

    public int count(int what) throws IllegalArgumentException {
        switch (what) {
            case 0:
                return heap.blocks;
            case 1:
                return frames.top - heap.usedWords;
            case 2:
                return frames.count;
            case 3:
                return locks.inUse();
            case 4:
                return locks.keysGiven;
            case 5:
                return untaggedTests;
            case 6:
                return overTests;
            case 7:
                return outsideTests;
            case 8:
                return pointersInUse(false);
            case 9:
                return pointersInUse(true);
            default:
                throw new IllegalArgumentException("no count has this number");
        }
    }

    private static void checkRegister(int register) {
        checkRange(register, 0, REGISTERS - 1);
    }

    private static void checkRange(int value, int least, int most) {
        if (value < least || value > most) {
            throw new IllegalArgumentException("a number is out of range");
        }
    }

    private void checkFrame() {
        if (frames.count == 0) {
            throw new IllegalStateException("no frame is open");
        }
    }

    private void testAlive(int register) {
        if (!registers.isPointer(register)) {
            untaggedTests++;
            throw new UnsupportedOperationException("the register has no tags");
        }
        if (!isAlive(registers, register)) {
            overTests++;
            throw new IllegalStateException("what the pointer was made for is over");
        }
    }

    private int testAccess(int pointer, int offset) {
        testAlive(pointer);
        int address = registers.number[pointer] + offset;
        if (address < registers.base[pointer] || address >= registers.bound[pointer]) {
            outsideTests++;
            throw new IndexOutOfBoundsException("the address is outside the pointer's bounds");
        }
        return address;
    }

    // Bounds have no gaps, so the first and the last of n words vouch for those between.
    private int testAccesses(int pointer, int offset, int n) {
        int first = testAccess(pointer, offset);
        testAccess(pointer, offset + n - 1);
        return first;
    }

    private int pointToLocal(int register, int index) {
        int frame = frames.count - 1;
        int address = frames.localAddress[index];
        int n = frames.localWords[index];
        registers.makePointer(register, address, n, frames.lock[frame], frames.key[frame]);
        return address;
    }

    private boolean isAlive(Cells cells, int index) {
        return cells.isPointer(index) && locks.held[cells.lock[index]] == cells.key[index];
    }

    private int pointersInUse(boolean onlyAlive) {
        int found = 0;
        for (int address = 0; address < WORDS; address++) {
            boolean inUse = address >= frames.top || heap.used[address];
            if (inUse && (onlyAlive ? isAlive(words, address) : words.isPointer(address))) {
                found++;
            }
        }
        return found;
    }

    private static int oneIf(boolean holds) {
        return holds ? 1 : 0;
    }

    /** Numbers with their tags beside. Keys begin at 1, so that key 0 can stand for no tags. */
    private static final class Cells {
        final int[] number;
        final int[] base;
        final int[] bound;
        final int[] lock;
        final int[] key;

        Cells(int size) {
            number = new int[size];
            base = new int[size];
            bound = new int[size];
            lock = new int[size];
            key = new int[size];
        }

        boolean isPointer(int index) {
            return key[index] != 0;
        }

        void makeNumber(int index, int value) {
            number[index] = value;
            key[index] = 0;
        }

        void makePointer(int index, int address, int n, int itsLock, int itsKey) {
            number[index] = address;
            base[index] = address;
            bound[index] = address + n;
            lock[index] = itsLock;
            key[index] = itsKey;
        }

        void take(int index, Cells others, int other) {
            number[index] = others.number[other];
            base[index] = others.base[other];
            bound[index] = others.bound[other];
            lock[index] = others.lock[other];
            key[index] = others.key[other];
        }

        void clear(int first, int n) {
            for (int index = first; index < first + n; index++) {
                makeNumber(index, 0);
            }
        }

        // arraycopy copies rows that overlap as if all were read first.
        void copyWithin(int to, int from, int n) {
            System.arraycopy(number, from, number, to, n);
            System.arraycopy(base, from, base, to, n);
            System.arraycopy(bound, from, bound, to, n);
            System.arraycopy(lock, from, lock, to, n);
            System.arraycopy(key, from, key, to, n);
        }
    }

    /** What each lock holds, and which one is next. */
    private static final class Locks {
        final int[] held = new int[LOCKS];
        private final int[] waiting = new int[LOCKS];
        private int waitingCount;
        private int everInUse;
        int keysGiven;

        boolean anyLeft() {
            return waitingCount > 0 || everInUse < LOCKS;
        }

        int inUse() {
            return everInUse - waitingCount;
        }

        // Only to be called while one is left.
        int takeNew() {
            int lock;
            if (waitingCount > 0) {
                waitingCount--;
                lock = waiting[waitingCount];
            } else {
                lock = everInUse;
                everInUse++;
            }
            keysGiven++;
            held[lock] = keysGiven;
            return lock;
        }

        void letGo(int lock) {
            held[lock] = 0;
            waiting[waitingCount] = lock;
            waitingCount++;
        }
    }

    /** The blocks in use, each known by its first address. */
    private static final class Heap {
        final boolean[] used = new boolean[WORDS];
        private final int[] blockWords = new int[WORDS];
        private final int[] blockKey = new int[WORDS];
        int blocks;
        int usedWords;

        boolean isFree(int first, int n) {
            for (int address = first; address < first + n; address++) {
                if (used[address]) {
                    return false;
                }
            }
            return true;
        }

        int roomFor(int n, int top) {
            for (int address = 0; address + n <= top; address++) {
                if (isFree(address, n)) {
                    return address;
                }
            }
            return NO_ROOM;
        }

        // A block that is over keeps no key here, and no pointer has key 0.
        boolean hasBlockAt(int address, int key) {
            return address >= 0 && address < WORDS && blockKey[address] == key;
        }

        void takeBlock(int address, int n, int key) {
            blockWords[address] = n;
            blockKey[address] = key;
            mark(address, n, true);
            blocks++;
            usedWords += n;
        }

        int giveBack(int address) {
            int n = blockWords[address];
            blockKey[address] = 0;
            mark(address, n, false);
            blocks--;
            usedWords -= n;
            return n;
        }

        private void mark(int first, int n, boolean inUse) {
            for (int address = first; address < first + n; address++) {
                used[address] = inUse;
            }
        }
    }

    /** The open frames; the locals of all of them stand in one row, those of the last frame last. */
    private static final class Frames {
        final int[] lock = new int[MOST_FRAMES];
        final int[] key = new int[MOST_FRAMES];
        final int[] firstLocal = new int[MOST_FRAMES];
        private final int[] topBefore = new int[MOST_FRAMES];
        // Every local has a word at least, so there are no more of them than words.
        final int[] localAddress = new int[WORDS];
        final int[] localWords = new int[WORDS];
        int count;
        int locals;
        int top = WORDS;

        // Only to be called while there are fewer frames than the most.
        void open(int itsLock, int itsKey) {
            lock[count] = itsLock;
            key[count] = itsKey;
            firstLocal[count] = locals;
            topBefore[count] = top;
            count++;
        }

        // Only to be called while a frame is open and n words below the top are free.
        void addLocal(int n) {
            top -= n;
            localAddress[locals] = top;
            localWords[locals] = n;
            locals++;
        }

        // Only to be called while a frame is open.
        int close() {
            count--;
            int n = topBefore[count] - top;
            top = topBefore[count];
            locals = firstLocal[count];
            return n;
        }
    }
}
