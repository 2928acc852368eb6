import java.util.Arrays;

/** What the tests share: answers against what is due, and calls that must throw. */
final class Check {
    static final Class<? extends RuntimeException> ARGUMENT = IllegalArgumentException.class;
    static final Class<? extends RuntimeException> STATE = IllegalStateException.class;
    static final Class<? extends RuntimeException> UNTAGGED = UnsupportedOperationException.class;
    static final Class<? extends RuntimeException> OUTSIDE = IndexOutOfBoundsException.class;

    private static int wrong;

    private Check() {
    }

    interface Call {
        int make();
    }

    static void due(String what, int want, int got) {
        if (got != want) {
            fail(what + " answered " + got + ", due is " + want);
        }
    }

    static void fail(String message) {
        wrong++;
        System.out.println(message);
    }

    /** The call must throw just this kind and leave all counts as they were. */
    static void refused(String what, SafeMemory memory, Class<? extends RuntimeException> kind, Call call) {
        int[] before = askCounts(memory);
        throwsKind(what, kind, call);
        if (!Arrays.equals(before, askCounts(memory))) {
            fail(what + " threw, and changed a count");
        }
    }

    /** The call must throw this kind by a test of a pointer, which is counted, and change no other count. */
    static void tested(String what, SafeMemory memory, Class<? extends RuntimeException> kind, Call call) {
        int[] due = askCounts(memory);
        int place = kind == UNTAGGED ? 5 : kind == STATE ? 6 : 7;
        due[place]++;
        throwsKind(what, kind, call);
        if (!Arrays.equals(due, askCounts(memory))) {
            fail(what + " threw, and did not change the count of its tests alone");
        }
    }

    static void throwsKind(String what, Class<? extends RuntimeException> kind, Call call) {
        try {
            fail(what + " answered " + call.make() + ", due is a " + kind.getSimpleName());
        } catch (RuntimeException thrown) {
            if (thrown.getClass() != kind) {
                fail(what + " threw " + thrown + ", due is a " + kind.getSimpleName());
            }
        }
    }

    /** The counts alone: an object has 512 calls, and ModelTest looks at the rest of the state. */
    private static int[] askCounts(SafeMemory memory) {
        int[] answers = new int[10];
        for (int what = 0; what < answers.length; what++) {
            answers[what] = memory.count(what);
        }
        return answers;
    }

    /** What register answers for its number, pointer, alive, size, place and key. */
    static void registerIs(String what, SafeMemory memory, int register, int... due) {
        for (int i = 0; i < due.length; i++) {
            due(what + ": register(" + register + ", " + i + ")", due[i], memory.register(register, i));
        }
    }

    static void end() {
        System.out.println(wrong == 0 ? "all answers are as due" : wrong + " answers are not as due");
        if (wrong != 0) {
            System.exit(1);
        }
    }
}
