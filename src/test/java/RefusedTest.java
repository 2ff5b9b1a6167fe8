import java.util.Arrays;
import java.util.NoSuchElementException;

/**
 * Terms 3: what is set ahead of the run alone, and what refused calls leave as it was. A refused
 * call is put between calls that are taken; all that can be looked at behind them must be what it
 * is without the refused call, now, later in the run, and in a run begun anew.
 */
public final class RefusedTest {
    private static final int[] FAR = {-1, Looks.MIN, Looks.MAX};

    /** Uses both ends of the program, all kinds, and more of each than there are units. */
    private static final Looks.Calls PROGRAM = x -> {
        for (int i = 0; i < 16; i++) {
            x.set(0, i, 3 + 7 * i);
        }
        x.set(0, 14, -1);
        x.set(1, 0, 5);
        x.set(1, 255, 6);
        for (int kind = 0; kind < 4; kind++) {
            x.units(kind, 2);
        }
        for (int kind = 0; kind < 6; kind++) {
            x.latency(kind, 5);
        }
        x.width(2);
        x.put(0, 17, 3, 14, 252);
        x.put(252, 7, 14, 14, 1);
        x.put(253, 15, 1, 2, 7);
        x.put(254, 14, 5, 2, 7);
        x.put(255, 6, 6, 3, 9);
        int[] codes = {1, 2, 3, 8, 9, 10, 11, 11, 11, 12, 13, 12};
        for (int i = 0; i < codes.length; i++) {
            x.put(1 + i, codes[i], i, (i + 5) % 16, (i + 7) % 16);
        }
    };

    /** How it goes on behind the refused call. */
    private static final Looks.Calls[] LATER = {
        x -> { },
        x -> x.run(1),
        x -> x.run(13),
        x -> x.run(3000),
        x -> x.again(),
        x -> {
            x.run(5);
            x.again();
            x.run(40);
        },
        x -> {
            x.clear();
            x.put(0, 11, 1, 2, 3);
            x.put(1, 6, 2, 3, 4);
            x.run(3);
        },
    };

    public static void main(String[] args) {
        Looks.tests(
                RefusedTest::eachCallChangesSomethingIfTaken,
                RefusedTest::aheadOfTheRunAlone,
                RefusedTest::runOfZeroIsAheadOfTheRun,
                RefusedTest::wrongPuts,
                RefusedTest::wrongUnits,
                RefusedTest::wrongLatencies,
                RefusedTest::wrongWidths,
                RefusedTest::wrongSets,
                RefusedTest::wrongRuns,
                RefusedTest::wrongLooks,
                RefusedTest::wrongLooksAtOne,
                RefusedTest::rightCallsInTheRun);
        Looks.end();
    }

    private interface Refused {
        boolean taken(ScoreMachine x);
    }

    private static void refusedIn(String what, Looks.Calls before, Refused call) {
        Looks.Calls refused = x -> Looks.due(what, call.taken(x), false);
        for (int i = 0; i < LATER.length; i++) {
            Looks.dueAlike(what + ", later " + i, Looks.all(PROGRAM, before, refused, LATER[i]),
                    Looks.all(PROGRAM, before, LATER[i]));
        }
    }

    private static final Looks.Calls AT_ONCE = x -> { };

    /** Ahead of the run, in its first cycle, later, in its last cycle but one, and over. */
    private static void refusedAlways(String what, Refused call) {
        refusedIn(what + " ahead of the run", AT_ONCE, call);
        refusedInTheRun(what, call);
    }

    private static void refusedInTheRun(String what, Refused call) {
        refusedIn(what + " in cycle 1", x -> x.run(1), call);
        refusedIn(what + " in cycle 30", x -> x.run(30), call);
        refusedIn(what + " when it is over", x -> x.run(3000), call);
    }

    /** The five calls that set, each so that the program above goes otherwise with it. */
    private static final Refused[] SETTERS = {
        x -> x.put(0, 6, 1, 2, 3),
        x -> x.put(255, 18, 15, 15, 9),
        x -> x.units(0, 1),
        x -> x.units(3, 3),
        x -> x.latency(0, 1),
        x -> x.latency(5, 30),
        x -> x.width(1),
        x -> x.width(4),
        x -> x.set(0, 0, 1),
        x -> x.set(0, 15, Long.MIN_VALUE),
        x -> x.set(1, 0, 1),
        x -> x.set(1, 255, Long.MAX_VALUE),
    };

    /** The tests below see a call that is taken by mistake only if this holds. */
    private static void eachCallChangesSomethingIfTaken() {
        Looks.sentence("(each call that sets shows at once or in the end, if it is taken)");
        long[] atOnce = Looks.all(PROGRAM);
        long[] inTheEnd = Looks.all(PROGRAM, x -> x.run(3000));
        for (int i = 0; i < SETTERS.length; i++) {
            Refused setter = SETTERS[i];
            Looks.Calls taken = x -> Looks.due("ahead of the run", setter.taken(x), true);
            boolean shows = !Arrays.equals(Looks.all(PROGRAM, taken), atOnce)
                    || !Arrays.equals(Looks.all(PROGRAM, taken, x -> x.run(3000)), inTheEnd);
            Looks.due("call " + i + " shows", shows, true);
        }
    }

    private static void aheadOfTheRunAlone() {
        Looks.sentence("PROGRAM, UNITS, LATENCIES, WIDTH, what REGISTERS and MEMORY begin with are"
                + " set ahead of the RUN alone (CYCLE 0)");
        for (int i = 0; i < SETTERS.length; i++) {
            String what = "call " + i;
            ScoreMachine x = Looks.after(PROGRAM);
            Looks.due(what + " at CYCLE 0", SETTERS[i].taken(x), true);
            x.run(1);
            Looks.due(what + " at CYCLE 1", SETTERS[i].taken(x), false);
            x.run(3000);
            Looks.due(what + " when it is over or far on", SETTERS[i].taken(x), false);
            x.again();
            Looks.due(what + " at CYCLE 0 again", SETTERS[i].taken(x), true);
            x.run(1);
            Looks.due(what + " at CYCLE 1 again", SETTERS[i].taken(x), false);
            x.clear();
            Looks.due(what + " when it is cleared", SETTERS[i].taken(x), true);
            ScoreMachine y = new ScoreMachine();
            y.run(1);
            Looks.due(what + " over in cycle 1", SETTERS[i].taken(y), false);
        }
    }

    private static void runOfZeroIsAheadOfTheRun() {
        Looks.sentence("set ahead of the RUN alone (CYCLE 0): run(0) and refused runs leave CYCLE 0");
        int[] runs = {0, -1, 3001, Looks.MIN, Looks.MAX};
        for (int n : runs) {
            for (int i = 0; i < SETTERS.length; i++) {
                ScoreMachine x = Looks.after(PROGRAM);
                x.run(n);
                Looks.due("call " + i + " behind run(" + n + ")", SETTERS[i].taken(x), true);
            }
        }
    }

    private static void wrongPuts() {
        Looks.sentence("put: Refused: .. no such PLACE, CODE (0 .. 18), D, A (0 .. 15)");
        int[][] wrong = {{256, 6, 1, 2, 3}, {0, 19, 1, 2, 3}, {0, 6, 16, 2, 3}, {0, 6, 1, 16, 3},
            {255, 19, 1, 2, 3}, {255, 6, 16, 2, 3}, {255, 6, 1, 16, 3}, {256, 19, 16, 16, 3}};
        for (int[] w : wrong) {
            refusedAlways("put", x -> x.put(w[0], w[1], w[2], w[3], w[4]));
        }
        for (int far : FAR) {
            refusedAlways("put, place " + far, x -> x.put(far, 6, 1, 2, 3));
            refusedAlways("put, code " + far, x -> x.put(0, far, 1, 2, 3));
            refusedAlways("put, d " + far, x -> x.put(0, 6, far, 2, 3));
            refusedAlways("put, a " + far, x -> x.put(0, 6, 1, far, 3));
        }
    }

    private static void wrongUnits() {
        Looks.sentence("units: Refused: .. others (than KINDS 0 .. 3, 1 .. 3)");
        for (int kind = 0; kind < 4; kind++) {
            int k = kind;
            refusedAlways("units(" + k + ", 0)", x -> x.units(k, 0));
            refusedAlways("units(" + k + ", 4)", x -> x.units(k, 4));
        }
        for (int many = 0; many <= 4; many++) {
            int m = many;
            refusedAlways("units(-1, " + m + ")", x -> x.units(-1, m));
            refusedAlways("units(4, " + m + ")", x -> x.units(4, m));
            refusedAlways("units(5, " + m + ")", x -> x.units(5, m));
            refusedAlways("units(6, " + m + ")", x -> x.units(6, m));
        }
        for (int far : FAR) {
            refusedAlways("units(" + far + ", 1)", x -> x.units(far, 1));
            refusedAlways("units(0, " + far + ")", x -> x.units(0, far));
        }
    }

    private static void wrongLatencies() {
        Looks.sentence("latency: Refused: .. others (than a KIND, 1 .. 30)");
        for (int kind = 0; kind < 6; kind++) {
            int k = kind;
            refusedAlways("latency(" + k + ", 0)", x -> x.latency(k, 0));
            refusedAlways("latency(" + k + ", 31)", x -> x.latency(k, 31));
        }
        refusedAlways("latency(6, 1)", x -> x.latency(6, 1));
        refusedAlways("latency(6, 31)", x -> x.latency(6, 31));
        for (int far : FAR) {
            refusedAlways("latency(" + far + ", 1)", x -> x.latency(far, 1));
            refusedAlways("latency(5, " + far + ")", x -> x.latency(5, far));
        }
    }

    private static void wrongWidths() {
        Looks.sentence("width: Refused: .. others (than 1 .. 4)");
        int[] others = {0, 5, -1, 256, Looks.MIN, Looks.MAX};
        for (int n : others) {
            refusedAlways("width(" + n + ")", x -> x.width(n));
        }
    }

    private static void wrongSets() {
        Looks.sentence("set: Refused: .. none such");
        refusedAlways("set(0, 16, 1)", x -> x.set(0, 16, 1));
        refusedAlways("set(0, 255, 1)", x -> x.set(0, 255, 1));
        refusedAlways("set(1, 256, 1)", x -> x.set(1, 256, 1));
        refusedAlways("set(2, 0, 1)", x -> x.set(2, 0, 1));
        refusedAlways("set(2, 256, 1)", x -> x.set(2, 256, 1));
        for (int far : FAR) {
            refusedAlways("set(" + far + ", 0, 1)", x -> x.set(far, 0, 1));
            refusedAlways("set(0, " + far + ", 1)", x -> x.set(0, far, 1));
            refusedAlways("set(1, " + far + ", 1)", x -> x.set(1, far, 1));
        }
    }

    private static void wrongRuns() {
        Looks.sentence("run: NONE: another n");
        int[] others = {-1, 3001, 6000, Looks.MIN, Looks.MAX};
        for (int n : others) {
            refusedAlways("run(" + n + ")", x -> x.run(n) != Looks.NONE);
        }
    }

    private static boolean answers(Looks.Call call) {
        try {
            call.answer();
            return true;
        } catch (NoSuchElementException e) {
            return false;
        }
    }

    private static void wrongLooks() {
        Looks.sentence("Refused calls answer .. NONE, and change nothing (looks)");
        int[] counts = {9, -1, Looks.MIN, Looks.MAX};
        for (int what : counts) {
            refusedAlways("count(" + what + ")", x -> x.count(what) != Looks.NONE);
        }
        int[] registers = {16, -1, Looks.MIN, Looks.MAX};
        for (int i : registers) {
            refusedAlways("pending(" + i + ")", x -> x.pending(i) != Looks.NONE);
            refusedAlways("register(" + i + ")", x -> answers(() -> x.register(i)));
            refusedAlways("plain(0, " + i + ")", x -> answers(() -> x.plain(0, i)));
        }
        int[] cells = {256, -1, Looks.MIN, Looks.MAX};
        for (int i : cells) {
            refusedAlways("memory(" + i + ")", x -> answers(() -> x.memory(i)));
            refusedAlways("plain(1, " + i + ")", x -> answers(() -> x.plain(1, i)));
        }
        int[] others = {2, -1, Looks.MIN, Looks.MAX};
        for (int what : others) {
            refusedAlways("plain(" + what + ", 0)", x -> answers(() -> x.plain(what, 0)));
        }
    }

    private static void wrongLooksAtOne() {
        Looks.sentence("Refused calls answer .. NONE, and change nothing (unit and latest)");
        int[][] units = {{6, 0, 0}, {0, 2, 0}, {4, 1, 0}, {5, 1, 0}, {0, 0, 3}, {-1, 0, 0},
            {0, -1, 0}, {0, 0, -1}, {Looks.MAX, 0, 0}, {0, Looks.MAX, 0}, {0, 0, Looks.MAX},
            {Looks.MIN, 0, 0}, {0, Looks.MIN, 0}, {0, 0, Looks.MIN}};
        for (int[] u : units) {
            refusedAlways("unit(" + u[0] + ", " + u[1] + ", " + u[2] + ")",
                    x -> x.unit(u[0], u[1], u[2]) != Looks.NONE);
        }
        int[][] latest = {{64, 0}, {-1, 0}, {0, 6}, {0, -1}, {Looks.MAX, 0}, {0, Looks.MAX},
            {Looks.MIN, 0}, {0, Looks.MIN}};
        for (int[] l : latest) {
            refusedAlways("latest(" + l[0] + ", " + l[1] + ")",
                    x -> x.latest(l[0], l[1]) != Looks.NONE);
        }
    }

    private static void rightCallsInTheRun() {
        Looks.sentence("Refused: the RUN began .. Refused calls .. change nothing");
        for (int i = 0; i < SETTERS.length; i++) {
            refusedInTheRun("call " + i, SETTERS[i]);
        }
    }
}
