import java.util.Arrays;
import java.util.NoSuchElementException;

/**
 * What the boundary tests share: the sentence under test, telling wrong answers, and looking at all
 * of an object. No object here is called more than 512 times.
 */
final class Looks {
    static final int NONE = -1;
    static final int MIN = Integer.MIN_VALUE;
    static final int MAX = Integer.MAX_VALUE;

    /** The columns of latest. */
    static final int PLACE = 0;
    static final int NUMBER = 1;
    static final int ISSUED = 2;
    static final int READ = 3;
    static final int DONE = 4;
    static final int WRITTEN = 5;

    private static String sentence = "";
    private static int sentences = 0;
    private static int wrong = 0;

    private Looks() {
    }

    interface Calls {
        void on(ScoreMachine x);
    }

    interface Call {
        long answer();
    }

    /** Runs each test; one that ends by what nobody awaits is told with its sentence. */
    static void tests(Runnable... tests) {
        for (Runnable test : tests) {
            try {
                test.run();
            } catch (RuntimeException e) {
                tell("a call threw " + e);
            }
        }
    }

    /** Tells which of the document's sentences the answers that follow belong to. */
    static void sentence(String words) {
        sentence = words;
        sentences++;
    }

    static void due(String what, long got, long want) {
        if (got != want) {
            tell(what + " answered " + got + ", due is " + want);
        }
    }

    static void due(String what, boolean got, boolean want) {
        if (got != want) {
            tell(what + " answered " + got + ", due is " + want);
        }
    }

    static void dueThrow(String what, Call call) {
        try {
            tell(what + " answered " + call.answer() + ", due is NoSuchElementException");
        } catch (NoSuchElementException e) {
            return;
        }
    }

    static void dueAlike(String what, long[] got, long[] want) {
        if (!Arrays.equals(got, want)) {
            tell(what + ": differs at " + Arrays.mismatch(got, want));
        }
    }

    private static void tell(String words) {
        wrong++;
        System.out.println("\"" + sentence + "\": " + words);
    }

    static void end() {
        System.out.println(sentences + " sentences, " + wrong + " answers are not as due");
        if (wrong != 0) {
            System.exit(1);
        }
    }

    static ScoreMachine after(Calls... calls) {
        ScoreMachine x = new ScoreMachine();
        for (Calls c : calls) {
            c.on(x);
        }
        return x;
    }

    /** The answer of latest for the instruction with this number. */
    static int told(ScoreMachine x, int number, int what) {
        return x.latest(x.count(2) - 1 - number, what);
    }

    /** What is due for the four cycles of the instruction with this number. */
    static void dueCycles(ScoreMachine x, int number, int... due) {
        String[] names = {"ISSUED", "READ", "DONE", "WRITTEN"};
        for (int i = 0; i < due.length; i++) {
            due(names[i] + " of number " + number, told(x, number, ISSUED + i), due[i]);
        }
    }

    /**
     * All that can be looked at behind these calls. The calls are made anew for each part, so that
     * no object is asked more often than the document allows.
     */
    static long[] all(Calls... calls) {
        long[] told = new long[9 + 16 * 3 + 6 * 3 * 3 + 256 * 2 + 64 * 6];
        int at = boardOf(after(calls), told);
        at = cellsOf(after(calls), false, told, at);
        at = cellsOf(after(calls), true, told, at);
        at = latestOf(after(calls), told, at);
        if (at != told.length) {
            throw new IllegalStateException("a part is missing");
        }
        return told;
    }

    private static int boardOf(ScoreMachine x, long[] told) {
        int at = 0;
        for (int what = 0; what <= 8; what++) {
            told[at++] = x.count(what);
        }
        for (int i = 0; i < 16; i++) {
            told[at++] = x.register(i);
            told[at++] = x.plain(0, i);
            told[at++] = x.pending(i);
        }
        for (int kind = 0; kind < 6; kind++) {
            for (int i = 0; i < 3; i++) {
                for (int what = 0; what < 3; what++) {
                    told[at++] = x.unit(kind, i, what);
                }
            }
        }
        return at;
    }

    private static int cellsOf(ScoreMachine x, boolean plain, long[] told, int from) {
        int at = from;
        for (int i = 0; i < 256; i++) {
            told[at++] = plain ? x.plain(1, i) : x.memory(i);
        }
        return at;
    }

    private static int latestOf(ScoreMachine x, long[] told, int from) {
        int at = from;
        for (int k = 0; k < 64; k++) {
            for (int what = PLACE; what <= WRITTEN; what++) {
                told[at++] = x.latest(k, what);
            }
        }
        return at;
    }
}
