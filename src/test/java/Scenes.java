/** States that several tests begin with. */
final class Scenes {
    private Scenes() {
    }

    /** Four blocks take all 96 words; registers 0 to 3 point to them. */
    static SafeMemory noRoom() {
        SafeMemory m = new SafeMemory();
        for (int r = 0; r < 4; r++) {
            Check.due("a block of 24 words", 24 * r, m.alloc(r, 24));
        }
        return m;
    }

    /** Forty blocks of one word have all locks; register r points to the block at 32 + r, of key 33 + r. */
    static SafeMemory noLock() {
        SafeMemory m = new SafeMemory();
        for (int i = 0; i < 40; i++) {
            Check.due("a block of one word", i, m.alloc(i % 8, 1));
        }
        return m;
    }

    /** Six frames are open, without locals. */
    static SafeMemory sixFrames() {
        SafeMemory m = new SafeMemory();
        for (int frame = 1; frame <= 6; frame++) {
            Check.due("a frame", frame, m.enter());
        }
        return m;
    }

    /** Register 0 points to a block of four words at 4; register 1 to one at 8 that is over. */
    static SafeMemory aliveAndOver() {
        SafeMemory m = new SafeMemory();
        m.alloc(2, 4);
        m.alloc(0, 4);
        m.alloc(1, 4);
        m.free(1);
        m.set(2, 0);
        return m;
    }
}
