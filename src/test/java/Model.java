import java.util.ArrayList;
import java.util.List;

/**
 * The document's memory once more, made to be plain and of other parts than SafeMemory: a pointer
 * knows its owner, a block or a frame, and is alive as long as that is, so there are no locks here
 * but their number.
 */
final class Model {
    private static final Value ZERO = new Value(0, null);

    private final Value[] words = new Value[96];
    private final Value[] registers = new Value[8];
    private final List<Owner> blocks = new ArrayList<>();
    private final List<Owner> frames = new ArrayList<>();
    private final int[] tests = new int[3];
    private int keys;

    Model() {
        clear(words, 0, 96);
        clear(registers, 0, 8);
    }

    private record Value(int number, Tags tags) {
        boolean alive() {
            return tags != null && tags.owner.alive;
        }
    }

    private record Tags(int base, int bound, Owner owner) {
    }

    /** A block with one part, or a frame with a part for every local. */
    private static final class Owner {
        final int key;
        final List<int[]> parts = new ArrayList<>();
        boolean alive = true;

        Owner(int key) {
            this.key = key;
        }

        int size() {
            return parts.stream().mapToInt(part -> part[1]).sum();
        }

        boolean has(int address) {
            return parts.stream().anyMatch(part -> address >= part[0] && address < part[0] + part[1]);
        }
    }

    int call(String name, int a, int b, int c) {
        switch (name) {
            case "set": return set(a, b);
            case "move": return move(a, b);
            case "alloc": return alloc(a, b);
            case "free": return free(a);
            case "add": return add(a, b);
            case "load": return load(a, b, c);
            case "store": return store(a, b, c);
            case "copy": return copy(a, b, c);
            case "narrow": return narrow(a, b, c);
            case "enter": return enter();
            case "local": return local(a, b);
            case "point": return point(a, b);
            case "leave": return leave();
            case "same": return same(a, b);
            case "register": return register(a, b);
            default: return count(a);
        }
    }

    private int set(int r, int value) {
        need(isRegister(r));
        int before = registers[r].number;
        registers[r] = new Value(value, null);
        return before;
    }

    private int move(int to, int from) {
        need(isRegister(to) && isRegister(from));
        registers[to] = registers[from];
        return registers[to].number;
    }

    private int alloc(int r, int n) {
        need(isRegister(r) && n >= 1 && n <= 24);
        int address = 0;
        while (address + n <= 96 && !allFree(address, n)) {
            address++;
        }
        needState(address + n <= 96 && locksInUse() < 40);
        Owner block = new Owner(++keys);
        block.parts.add(new int[] {address, n});
        blocks.add(block);
        clear(words, address, n);
        return pointTo(r, block, 0);
    }

    private int free(int r) {
        need(isRegister(r));
        testAlive(r);
        Value value = registers[r];
        Owner owner = value.tags.owner;
        if (!blocks.contains(owner) || owner.parts.get(0)[0] != value.number) {
            tests[2]++;
            throw new IndexOutOfBoundsException();
        }
        blocks.remove(owner);
        owner.alive = false;
        return owner.size();
    }

    private int add(int r, int k) {
        need(isRegister(r) && isNear(k));
        registers[r] = new Value(registers[r].number + k, registers[r].tags);
        return registers[r].number;
    }

    private int load(int r, int pointer, int offset) {
        need(isRegister(r) && isRegister(pointer) && isNear(offset));
        registers[r] = words[access(pointer, offset)];
        return registers[r].number;
    }

    private int store(int pointer, int offset, int r) {
        need(isRegister(r) && isRegister(pointer));
        int address = access(pointer, offset);
        int before = words[address].number;
        words[address] = registers[r];
        return before;
    }

    private int copy(int to, int from, int n) {
        need(isRegister(to) && isRegister(from) && n >= 0 && n <= 24);
        if (n == 0) {
            return 0;
        }
        int source = access(from, 0);
        access(from, n - 1);
        int target = access(to, 0);
        access(to, n - 1);
        Value[] read = new Value[n];
        for (int i = 0; i < n; i++) {
            read[i] = words[source + i];
        }
        for (int i = 0; i < n; i++) {
            words[target + i] = read[i];
        }
        return n;
    }

    private int narrow(int r, int offset, int n) {
        need(isRegister(r) && isNear(offset) && n >= 1 && n <= 24);
        int first = access(r, offset);
        int last = access(r, offset + n - 1);
        registers[r] = new Value(first, new Tags(first, last + 1, registers[r].tags.owner));
        return first;
    }

    private int enter() {
        needState(frames.size() < 6 && locksInUse() < 40);
        frames.add(new Owner(++keys));
        return frames.size();
    }

    private int local(int r, int n) {
        need(isRegister(r) && n >= 1 && n <= 8);
        needState(!frames.isEmpty());
        int address = top() - n;
        needState(address >= 0 && allFree(address, n));
        Owner frame = lastFrame();
        frame.parts.add(new int[] {address, n});
        clear(words, address, n);
        return pointTo(r, frame, frame.parts.size() - 1);
    }

    private int point(int r, int number) {
        need(isRegister(r));
        needState(!frames.isEmpty());
        if (number < 0 || number >= lastFrame().parts.size()) {
            throw new IndexOutOfBoundsException();
        }
        return pointTo(r, lastFrame(), number);
    }

    private int leave() {
        needState(!frames.isEmpty());
        Owner frame = frames.remove(frames.size() - 1);
        frame.alive = false;
        return frame.size();
    }

    private int same(int first, int second) {
        need(isRegister(first) && isRegister(second));
        return registers[first].number == registers[second].number ? 1 : 0;
    }

    private int register(int r, int what) {
        need(isRegister(r) && what >= 0 && what <= 5);
        Value value = registers[r];
        Tags tags = value.tags;
        if (what == 0) {
            return value.number;
        }
        if (tags == null) {
            return 0;
        }
        int alive = value.alive() ? 1 : 0;
        return new int[] {1, alive, tags.bound - tags.base, value.number - tags.base, tags.owner.key}[what - 1];
    }

    private int count(int what) {
        need(what >= 0 && what <= 9);
        int free = 0;
        int pointers = 0;
        int alive = 0;
        for (int address = 0; address < 96; address++) {
            boolean isFree = allFree(address, 1);
            free += isFree ? 1 : 0;
            pointers += !isFree && words[address].tags != null ? 1 : 0;
            alive += !isFree && words[address].alive() ? 1 : 0;
        }
        return new int[] {blocks.size(), free, frames.size(), locksInUse(), keys,
            tests[0], tests[1], tests[2], pointers, alive}[what];
    }

    private int pointTo(int r, Owner owner, int part) {
        int address = owner.parts.get(part)[0];
        registers[r] = new Value(address, new Tags(address, address + owner.parts.get(part)[1], owner));
        return address;
    }

    private int access(int pointer, int offset) {
        testAlive(pointer);
        Tags tags = registers[pointer].tags;
        long address = (long) registers[pointer].number + offset;
        if (address < tags.base || address > tags.bound - 1) {
            tests[2]++;
            throw new IndexOutOfBoundsException();
        }
        return (int) address;
    }

    private void testAlive(int r) {
        if (registers[r].tags == null) {
            tests[0]++;
            throw new UnsupportedOperationException();
        }
        if (!registers[r].alive()) {
            tests[1]++;
            throw new IllegalStateException();
        }
    }

    private boolean allFree(int first, int n) {
        for (int i = first; i < first + n; i++) {
            int address = i;
            if (address >= top() || blocks.stream().anyMatch(block -> block.has(address))) {
                return false;
            }
        }
        return true;
    }

    private int top() {
        return 96 - frames.stream().mapToInt(Owner::size).sum();
    }

    private Owner lastFrame() {
        return frames.get(frames.size() - 1);
    }

    private int locksInUse() {
        return blocks.size() + frames.size();
    }

    private static void clear(Value[] row, int first, int n) {
        for (int i = first; i < first + n; i++) {
            row[i] = ZERO;
        }
    }

    private static boolean isRegister(int r) {
        return r >= 0 && r <= 7;
    }

    private static boolean isNear(int k) {
        return k >= -1000 && k <= 1000;
    }

    private static void need(boolean holds) {
        if (!holds) {
            throw new IllegalArgumentException();
        }
    }

    private static void needState(boolean holds) {
        if (!holds) {
            throw new IllegalStateException();
        }
    }
}
