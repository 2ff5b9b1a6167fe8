/** The boundaries that the promises 1 to 16 name, one test for each sentence. */
public final class PromisesEdgesTest {
    private static final int NONE = Looks.NONE;
    private static final int MIN = Looks.MIN;
    private static final int MAX = Looks.MAX;

    public static void main(String[] args) {
        Looks.tests(
                PromisesEdgesTest::promise1AsTold,
                PromisesEdgesTest::promise2PutPlaces,
                PromisesEdgesTest::promise2PutCodes,
                PromisesEdgesTest::promise2PutRegisters,
                PromisesEdgesTest::promise2PutAnyB,
                PromisesEdgesTest::promise2PutOverAnother,
                PromisesEdgesTest::promise3UnitsKinds,
                PromisesEdgesTest::promise3UnitsMany,
                PromisesEdgesTest::promise4LatencyKinds,
                PromisesEdgesTest::promise4LatencyCycles,
                PromisesEdgesTest::promise5Width,
                PromisesEdgesTest::promise6SetRegisters,
                PromisesEdgesTest::promise6SetMemory,
                PromisesEdgesTest::promise6SetWhat,
                PromisesEdgesTest::promise6SetAnyValue,
                PromisesEdgesTest::promise7RunLeast,
                PromisesEdgesTest::promise7RunMost,
                PromisesEdgesTest::promise7RunUntilOver,
                PromisesEdgesTest::promise7RunInParts,
                PromisesEdgesTest::promise8Again,
                PromisesEdgesTest::promise8AgainAtCycle0,
                PromisesEdgesTest::promise8AgainKeepsWhatWasSet,
                PromisesEdgesTest::promise9Clear,
                PromisesEdgesTest::promise9ClearThenSet,
                PromisesEdgesTest::promise10Cycle,
                PromisesEdgesTest::promise10Over,
                PromisesEdgesTest::promise10IssuedAndWritten,
                PromisesEdgesTest::promise10NotWritten,
                PromisesEdgesTest::promise10Stalls,
                PromisesEdgesTest::promise10NextPlace,
                PromisesEdgesTest::promise10NextPlaceHidden,
                PromisesEdgesTest::promise10OtherWhat,
                PromisesEdgesTest::promise11Register,
                PromisesEdgesTest::promise12Memory,
                PromisesEdgesTest::promise13PlainRegisters,
                PromisesEdgesTest::promise13PlainMemory,
                PromisesEdgesTest::promise13PlainWhat,
                PromisesEdgesTest::promise14UnitStates,
                PromisesEdgesTest::promise14UnitDoneWhileItWaits,
                PromisesEdgesTest::promise14UnitThere,
                PromisesEdgesTest::promise14UnitFree,
                PromisesEdgesTest::promise14UnitWhat,
                PromisesEdgesTest::promise15Pending,
                PromisesEdgesTest::promise15PendingRegisters,
                PromisesEdgesTest::promise16LatestFewer,
                PromisesEdgesTest::promise16LatestMost,
                PromisesEdgesTest::promise16LatestToCome,
                PromisesEdgesTest::promise16LatestWhat);
        Looks.end();
    }

    /** True where it is told to be: the values that are taken; false: those that are refused. */
    private interface Taken {
        boolean by(ScoreMachine x, int value);
    }

    private static void dueTaken(String what, Taken call, int from, int to) {
        for (int value = from; value <= to; value++) {
            Looks.due(what + " " + value, call.by(new ScoreMachine(), value), true);
        }
        int[] refused = {from - 1, to + 1, MIN, MAX, from + (1 << 16), to - (1 << 16)};
        for (int value : refused) {
            Looks.due(what + " " + value, call.by(new ScoreMachine(), value), false);
        }
    }

    private static void promise1AsTold() {
        Looks.sentence("ScoreMachine(): As told; CYCLE 0");
        long[] all = Looks.all();
        for (int what = 0; what <= 8; what++) {
            Looks.due("count(" + what + ")", all[what], 0);
        }
        for (int i = 9; i < all.length; i++) {
            boolean isNone = i < 9 + 48 ? (i - 9) % 3 == 2 : i < 9 + 48 + 54 || i >= 9 + 48 + 54 + 512;
            Looks.due("look " + i, all[i], isNone ? NONE : 0);
        }
        ScoreMachine x = new ScoreMachine();
        x.set(0, 1, 5);
        Looks.due("another object has its own", new ScoreMachine().register(1), 0);
    }

    private static void promise2PutPlaces() {
        Looks.sentence("put: A PLACE has an INSTRUCTION: true. Refused: .. no such PLACE");
        dueTaken("place", (x, place) -> x.put(place, 6, 1, 2, 3), 0, 255);
        for (int place = 1; place < 256; place++) {
            ScoreMachine x = new ScoreMachine();
            x.put(0, 18, 0, 0, place);
            x.put(place, 8, 1, 2, 3);
            x.run(5);
            Looks.due("the place that was put", x.latest(0, Looks.PLACE), place);
            Looks.due("unit(1, 0, 0)", x.unit(1, 0, 0), place);
        }
    }

    private static void promise2PutCodes() {
        Looks.sentence("put: Refused: .. CODE (0 .. 18)");
        dueTaken("code", (x, code) -> x.put(0, code, 1, 2, 3), 0, 18);
        ScoreMachine x = new ScoreMachine();
        x.put(0, 6, 1, 2, 3);
        x.put(0, 0, 1, 2, 3);
        Looks.due("0 is put over another, run(9)", x.run(9), 1);
        ScoreMachine y = new ScoreMachine();
        y.put(0, 18, 1, 2, 3);
        y.run(9);
        Looks.due("18 goes, count(7)", y.count(7), 3);
    }

    private static void promise2PutRegisters() {
        Looks.sentence("put: Refused: .. D, A (0 .. 15)");
        dueTaken("d", (x, d) -> x.put(0, 1, d, 2, 3), 0, 15);
        dueTaken("a", (x, a) -> x.put(0, 1, 1, a, 3), 0, 15);
        for (int i = 0; i < 16; i++) {
            ScoreMachine x = new ScoreMachine();
            x.set(0, i, 41);
            x.put(0, 7, 15 - i, i, 1);
            x.run(100);
            Looks.due("register(" + (15 - i) + ")", x.register(15 - i), 42);
        }
        for (int code = 0; code <= 18; code++) {
            ScoreMachine x = new ScoreMachine();
            Looks.due("d 16 of code " + code, x.put(0, code, 16, 0, 0), false);
            Looks.due("a 16 of code " + code, x.put(0, code, 0, 16, 0), false);
            Looks.due("d -1 of code " + code, x.put(0, code, -1, 0, 0), false);
            Looks.due("a -1 of code " + code, x.put(0, code, 0, -1, 0), false);
        }
    }

    private static void promise2PutAnyB() {
        Looks.sentence("put: (B is any int.)");
        int[] any = {MIN, MAX, -1, 0, 15, 16, 255, 256};
        for (int code = 0; code <= 18; code++) {
            for (int b : any) {
                ScoreMachine x = new ScoreMachine();
                Looks.due("put with B " + b, x.put(0, code, 1, 2, b), true);
            }
        }
    }

    private static void promise2PutOverAnother() {
        Looks.sentence("put: A PLACE has an INSTRUCTION (the last one that was put)");
        ScoreMachine x = new ScoreMachine();
        x.set(0, 5, 50);
        x.put(0, 11, 3, 4, 4);
        x.put(0, 7, 1, 5, 6);
        x.run(100);
        Looks.due("register(1)", x.register(1), 56);
        Looks.due("count(2)", x.count(2), 1);
        Looks.due("count(0)", x.count(0), 6);
        x.again();
        x.put(0, 7, 1, 5, 7);
        x.run(100);
        Looks.due("register(1) of the later one", x.register(1), 57);
    }

    private static void promise3UnitsKinds() {
        Looks.sentence("units: A KIND 0 .. 3");
        dueTaken("kind", (x, kind) -> x.units(kind, 1), 0, 3);
        dueTaken("kind", (x, kind) -> x.units(kind, 3), 0, 3);
        Looks.due("units(4, 1)", new ScoreMachine().units(4, 1), false);
        Looks.due("units(5, 1)", new ScoreMachine().units(5, 1), false);
    }

    private static void promise3UnitsMany() {
        Looks.sentence("units: has so many units (1 .. 3): true");
        for (int kind = 0; kind < 4; kind++) {
            int k = kind;
            dueTaken("units of " + k, (x, many) -> x.units(k, many), 1, 3);
            ScoreMachine x = new ScoreMachine();
            x.width(4);
            int[] code = {6, 8, 11, 12};
            for (int place = 0; place < 4; place++) {
                x.put(place, code[k], 1 + place, 9, 9);
            }
            x.units(k, 3);
            x.run(1);
            Looks.due("three, count(2)", x.count(2), 3);
            x.again();
            x.units(k, 1);
            x.run(1);
            Looks.due("one again, count(2)", x.count(2), 1);
        }
    }

    private static void promise4LatencyKinds() {
        Looks.sentence("latency: A KIND's LATENCY (of each KIND 0 .. 5)");
        dueTaken("kind", (x, kind) -> x.latency(kind, 1), 0, 5);
        dueTaken("kind", (x, kind) -> x.latency(kind, 30), 0, 5);
        int[] codes = {6, 8, 11, 12, 14, 18};
        int[] first = {2, 1, 6, 12, 3, 1};
        for (int set = 0; set < 6; set++) {
            for (int kind = 0; kind < 6; kind++) {
                ScoreMachine x = new ScoreMachine();
                x.latency(set, 20);
                x.put(0, codes[kind], 1, 9, 9);
                int latency = kind == set ? 20 : first[kind];
                Looks.due("run(3000)", x.run(3000), 4 + latency);
            }
        }
    }

    private static void promise4LatencyCycles() {
        Looks.sentence("latency: 1 .. 30: true");
        for (int kind = 0; kind < 6; kind++) {
            int k = kind;
            dueTaken("latency of " + k, (x, cycles) -> x.latency(k, cycles), 1, 30);
        }
    }

    private static void promise5Width() {
        Looks.sentence("width: WIDTH 1 .. 4: true");
        dueTaken("width", (x, n) -> x.width(n), 1, 4);
        ScoreMachine x = new ScoreMachine();
        x.width(4);
        x.width(2);
        x.put(0, 6, 1, 0, 0);
        x.put(1, 8, 2, 0, 0);
        x.put(2, 11, 3, 0, 0);
        x.run(1);
        Looks.due("the last that was set, count(2)", x.count(2), 2);
    }

    private static void promise6SetRegisters() {
        Looks.sentence("set: REGISTER i (what 0) .. begins with v: true. Refused: .. none such");
        dueTaken("register", (x, i) -> x.set(0, i, 7), 0, 15);
        for (int i = 0; i < 16; i++) {
            ScoreMachine x = new ScoreMachine();
            x.set(0, i, 7);
            for (int j = 0; j < 16; j++) {
                Looks.due("register(" + j + ")", x.register(j), i == j ? 7 : 0);
                Looks.due("memory(" + j + ")", x.memory(j), 0);
            }
        }
    }

    private static void promise6SetMemory() {
        Looks.sentence("set: MEMORY i (1) begins with v: true. Refused: .. none such");
        dueTaken("memory", (x, i) -> x.set(1, i, 7), 0, 255);
        for (int i = 0; i < 256; i++) {
            ScoreMachine x = new ScoreMachine();
            x.set(1, i, 7);
            for (int j = 0; j < 256; j++) {
                Looks.due("memory(" + j + ")", x.memory(j), i == j ? 7 : 0);
            }
            Looks.due("register", x.register(i % 16), 0);
        }
    }

    private static void promise6SetWhat() {
        Looks.sentence("set: (what 0) .. (1). Refused: .. none such");
        dueTaken("what", (x, what) -> x.set(what, 0, 7), 0, 1);
        dueTaken("what", (x, what) -> x.set(what, 15, 7), 0, 1);
    }

    private static void promise6SetAnyValue() {
        Looks.sentence("set: begins with v (any long)");
        long[] any = {Long.MIN_VALUE, Long.MAX_VALUE, -1, 0, 1L << 40};
        for (long v : any) {
            ScoreMachine x = new ScoreMachine();
            x.set(0, 3, 1);
            x.set(1, 3, 1);
            Looks.due("set(0, 3, " + v + ")", x.set(0, 3, v), true);
            Looks.due("set(1, 3, " + v + ")", x.set(1, 3, v), true);
            x.run(1);
            Looks.due("register(3)", x.register(3), v);
            Looks.due("memory(3)", x.memory(3), v);
            x.again();
            Looks.due("register(3) again", x.register(3), v);
            Looks.due("memory(3) again", x.memory(3), v);
            Looks.due("plain(0, 3) again", x.plain(0, 3), v);
            Looks.due("plain(1, 3) again", x.plain(1, 3), v);
        }
    }

    private static ScoreMachine endless() {
        ScoreMachine x = new ScoreMachine();
        x.put(0, 18, 0, 0, 0);
        return x;
    }

    private static void promise7RunLeast() {
        Looks.sentence("run: The RUN goes on for n CYCLES (0 ..). NONE: another n");
        ScoreMachine x = endless();
        Looks.due("run(-1)", x.run(-1), NONE);
        Looks.due("run(min)", x.run(MIN), NONE);
        Looks.due("run(0)", x.run(0), 0);
        Looks.due("count(0)", x.count(0), 0);
        Looks.due("run(1)", x.run(1), 1);
        Looks.due("count(0)", x.count(0), 1);
        Looks.due("run(0) in the run", x.run(0), 0);
        Looks.due("run(-1) in the run", x.run(-1), NONE);
        Looks.due("count(0)", x.count(0), 1);
    }

    private static void promise7RunMost() {
        Looks.sentence("run: The RUN goes on for n CYCLES (.. 3000). NONE: another n");
        ScoreMachine x = endless();
        Looks.due("run(3001)", x.run(3001), NONE);
        Looks.due("run(max)", x.run(MAX), NONE);
        Looks.due("count(0)", x.count(0), 0);
        Looks.due("run(3000)", x.run(3000), 3000);
        Looks.due("run(2999)", x.run(2999), 2999);
        Looks.due("run(3001) in the run", x.run(3001), NONE);
        Looks.due("count(0)", x.count(0), 5999);
    }

    private static void promise7RunUntilOver() {
        Looks.sentence("run: or until it is over: how many went");
        for (int n = 0; n <= 8; n++) {
            ScoreMachine x = new ScoreMachine();
            x.put(0, 6, 1, 0, 1);
            Looks.due("run(" + n + ")", x.run(n), Math.min(n, 6));
            Looks.due("count(1)", x.count(1), n >= 6 ? 1 : 0);
            Looks.due("the rest", x.run(3000), 6 - Math.min(n, 6));
            Looks.due("over, run(3000)", x.run(3000), 0);
            Looks.due("over, run(0)", x.run(0), 0);
            Looks.due("over, run(3001)", x.run(3001), NONE);
            Looks.due("over, run(-1)", x.run(-1), NONE);
            Looks.due("count(0)", x.count(0), 6);
        }
    }

    /** A loop with all kinds, so that a run has something to keep between two calls. */
    private static final Looks.Calls LOOP = x -> {
        x.width(3);
        x.units(0, 2);
        x.set(0, 1, 3);
        x.set(1, 0, 70);
        x.set(1, 6, 76);
        x.put(0, 12, 2, 1, 3);
        x.put(1, 7, 1, 1, -1);
        x.put(2, 15, 1, 1, 4);
        x.put(3, 11, 3, 2, 1);
        x.put(4, 6, 2, 0, 6);
        x.put(5, 17, 0, 1, 8);
        x.put(6, 9, 4, 3, 1);
        x.put(7, 18, 0, 0, 0);
    };

    private static void promise7RunInParts() {
        Looks.sentence("run: The RUN goes on (in parts as in one)");
        for (int n = 1; n <= 60; n++) {
            int cycles = n;
            long[] whole = Looks.all(LOOP, x -> x.run(cycles));
            Looks.dueAlike("one by one, " + n, Looks.all(LOOP, x -> {
                for (int i = 0; i < cycles; i++) {
                    x.run(1);
                }
            }), whole);
        }
    }

    private static void promise8Again() {
        Looks.sentence("again: CYCLE 0 again, what was set as it was set");
        for (int cycles = 1; cycles <= 100; cycles++) {
            int n = cycles;
            Looks.dueAlike("behind run(" + n + ")", Looks.all(LOOP, x -> x.run(n), x -> x.again()),
                    Looks.all(LOOP));
            Looks.dueAlike("and run(25)",
                    Looks.all(LOOP, x -> x.run(n), x -> x.again(), x -> x.run(25)),
                    Looks.all(LOOP, x -> x.run(25)));
        }
    }

    private static void promise8AgainAtCycle0() {
        Looks.sentence("again: CYCLE 0 again (at CYCLE 0 nothing changes)");
        Looks.dueAlike("new", Looks.all(x -> x.again()), Looks.all());
        Looks.dueAlike("set", Looks.all(LOOP, x -> x.again()), Looks.all(LOOP));
        Looks.dueAlike("twice", Looks.all(LOOP, x -> x.run(7), x -> x.again(), x -> x.again()),
                Looks.all(LOOP));
    }

    private static void promise8AgainKeepsWhatWasSet() {
        Looks.sentence("again: what was set as it was set (PROGRAM, UNITS, LATENCIES, WIDTH, ..)");
        Looks.Calls set = x -> {
            x.set(0, 1, -9);
            x.set(1, 255, 8);
            x.latency(3, 4);
            x.latency(5, 3);
            x.units(3, 2);
            x.width(4);
            x.put(6, 12, 4, 3, 1);
        };
        Looks.dueAlike("set behind again", Looks.all(LOOP, x -> x.run(30), x -> x.again(), set,
                x -> x.run(20), x -> x.again(), x -> x.run(31)), Looks.all(LOOP, set, x -> x.run(31)));
    }

    private static void promise9Clear() {
        Looks.sentence("clear: CYCLE 0, all as it was made");
        Looks.Calls setMemory = x -> x.set(1, 0, 70);
        for (int cycles = 0; cycles <= 100; cycles++) {
            int n = cycles;
            Looks.dueAlike("behind run(" + n + ")", Looks.all(LOOP, x -> x.run(n), x -> x.clear()),
                    Looks.all());
            Looks.dueAlike("and a set", Looks.all(LOOP, x -> x.run(n), x -> x.clear(), setMemory),
                    Looks.all(setMemory));
            Looks.dueAlike("and again",
                    Looks.all(LOOP, x -> x.run(n), x -> x.clear(), x -> x.again()), Looks.all());
            Looks.dueAlike("and run(10)",
                    Looks.all(LOOP, x -> x.run(n), x -> x.clear(), x -> x.run(10)),
                    Looks.all(x -> x.run(10)));
        }
        for (int place = 0; place < 256; place += 5) {
            ScoreMachine x = new ScoreMachine();
            x.put(place, 6, 1, 0, 1);
            x.clear();
            x.put(0, 18, 0, 0, place == 0 ? 1 : place);
            Looks.due("HALT is at each place, run(3000)", x.run(3000), 5);
        }
    }

    private static void promise9ClearThenSet() {
        Looks.sentence("clear: all as it was made (UNITS, LATENCIES, WIDTH, too)");
        Looks.Calls changed = x -> {
            x.width(4);
            for (int kind = 0; kind < 6; kind++) {
                x.units(kind, 3);
                x.latency(kind, 30);
            }
            for (int i = 0; i < 16; i++) {
                x.set(0, i, i + 1);
                x.set(1, 17 * i, i + 1);
            }
        };
        Looks.Calls program = x -> {
            int[] codes = {6, 6, 8, 8, 11, 11, 12, 12, 14, 15, 16};
            for (int place = 0; place < codes.length; place++) {
                x.put(place, codes[place], place, 15, 14);
            }
        };
        int[] cycles = {1, 9, 20, 3000};
        for (int n : cycles) {
            Looks.dueAlike("run(" + n + ")",
                    Looks.all(changed, x -> x.clear(), program, x -> x.run(n)),
                    Looks.all(program, x -> x.run(n)));
        }
    }

    private static void promise10Cycle() {
        Looks.sentence("count: What 0: CYCLE");
        ScoreMachine x = endless();
        Looks.due("at first", x.count(0), 0);
        x.run(3000);
        x.run(3000);
        Looks.due("behind 6000", x.count(0), 6000);
        x.again();
        Looks.due("again", x.count(0), 0);
    }

    private static void promise10Over() {
        Looks.sentence("count: 1: whether the RUN is over (1, 0)");
        ScoreMachine x = new ScoreMachine();
        Looks.due("ahead of the run", x.count(1), 0);
        x.run(0);
        Looks.due("behind run(0)", x.count(1), 0);
        x.run(1);
        Looks.due("over", x.count(1), 1);
        x.again();
        Looks.due("again", x.count(1), 0);
        x.run(1);
        x.clear();
        Looks.due("clear", x.count(1), 0);
        ScoreMachine y = endless();
        y.run(3000);
        Looks.due("never over", y.count(1), 0);
    }

    private static void promise10IssuedAndWritten() {
        Looks.sentence("count: 2: INSTRUCTIONS ISSUED .. 8: WRITTEN in all");
        ScoreMachine x = new ScoreMachine();
        x.put(0, 6, 1, 0, 1);
        x.put(1, 8, 2, 0, 0);
        int[] issued = {1, 2, 2, 2, 2, 2, 2};
        int[] written = {0, 0, 0, 0, 2, 2, 2};
        for (int i = 0; i < issued.length; i++) {
            x.run(1);
            Looks.due("count(2)", x.count(2), issued[i]);
            Looks.due("count(8)", x.count(8), written[i]);
        }
        ScoreMachine y = endless();
        y.run(3000);
        Looks.due("more than 64, count(2)", y.count(2), 750);
        Looks.due("more than 64, count(8)", y.count(8), 750);
        y.run(3);
        Looks.due("count(2)", y.count(2), 751);
        Looks.due("count(8)", y.count(8), 750);
    }

    private static void promise10NotWritten() {
        Looks.sentence("count: 3: that are not WRITTEN");
        ScoreMachine x = new ScoreMachine();
        x.width(4);
        int at = 0;
        int[] codes = {6, 8, 11, 12};
        for (int kind = 0; kind < 4; kind++) {
            x.units(kind, 3);
            for (int i = 0; i < 3; i++) {
                x.put(at, codes[kind], 1 + at, 0, 0);
                at++;
            }
            x.latency(kind, 30);
        }
        x.latency(4, 30);
        x.latency(5, 30);
        x.put(12, 14, 13, 0, 0);
        x.put(13, 18, 0, 0, 14);
        Looks.due("at CYCLE 0", x.count(3), 0);
        int[] notWritten = {4, 8, 12, 14};
        for (int many : notWritten) {
            x.run(1);
            Looks.due("count(3)", x.count(3), many);
        }
        x.run(28);
        Looks.due("all units at once", x.count(3), 14);
        int[] left = {10, 6, 2, 0, 0};
        for (int many : left) {
            x.run(1);
            Looks.due("count(3)", x.count(3), many);
            Looks.due("count(8)", x.count(8), 14 - many);
        }
    }

    private static void promise10Stalls() {
        Looks.sentence("count: 4, 5, 6: STALLS by 1, 2, 3");
        ScoreMachine x = new ScoreMachine();
        x.put(0, 18, 0, 0, 1);
        x.put(1, 14, 1, 0, 0);
        x.put(2, 14, 2, 0, 0);
        x.put(3, 8, 2, 0, 0);
        x.run(3000);
        Looks.due("count(4)", x.count(4), 3);
        Looks.due("count(5)", x.count(5), 5);
        Looks.due("count(6)", x.count(6), 5);
        x.again();
        Looks.due("again", x.count(4) + x.count(5) + x.count(6), 0);
    }

    private static void promise10NextPlace() {
        Looks.sentence("count: 7: the PLACE of the next INSTRUCTION to be ISSUED (of HALT, too)");
        ScoreMachine x = new ScoreMachine();
        Looks.due("HALT at CYCLE 0", x.count(7), 0);
        x.run(1);
        Looks.due("HALT, over", x.count(7), 0);
        ScoreMachine y = new ScoreMachine();
        y.put(0, 6, 1, 0, 0);
        y.put(1, 6, 2, 0, 0);
        int[] next = {1, 1, 1, 1, 1, 2, 2, 2, 2, 2, 2, 2};
        for (int place : next) {
            y.run(1);
            Looks.due("count(7) in cycle " + y.count(0), y.count(7), place);
        }
    }

    private static void promise10NextPlaceHidden() {
        Looks.sentence("count: 7: .. NONE while one of KIND 5 is ISSUED and not WRITTEN");
        for (int code = 16; code <= 18; code++) {
            ScoreMachine x = new ScoreMachine();
            x.put(0, 6, 1, 0, code == 16 ? 0 : -1);
            x.put(1, code, 0, 1, 255);
            x.run(1);
            Looks.due("ahead of the branch", x.count(7), 1);
            int written = code == 18 ? 5 : 8;
            for (int cycle = 2; cycle < written; cycle++) {
                x.run(1);
                Looks.due("in cycle " + cycle, x.count(7), NONE);
            }
            x.run(1);
            Looks.due("in the cycle of WRITTEN", x.count(7), 255);
        }
    }

    private static void promise10OtherWhat() {
        Looks.sentence("count: NONE for another what");
        ScoreMachine x = new ScoreMachine();
        x.put(0, 6, 1, 0, 0);
        for (int turn = 0; turn < 3; turn++) {
            Looks.due("count(-1)", x.count(-1), NONE);
            Looks.due("count(9)", x.count(9), NONE);
            Looks.due("count(min)", x.count(MIN), NONE);
            Looks.due("count(max)", x.count(MAX), NONE);
            Looks.due("count(8)", x.count(8), turn == 2 ? 1 : 0);
            Looks.due("count(0)", x.count(0) >= 0, true);
            x.run(turn == 0 ? 2 : 3000);
        }
    }

    private static void promise11Register() {
        Looks.sentence("register: REGISTER i. NoSuchElementException: none such");
        ScoreMachine x = new ScoreMachine();
        for (int i = 0; i < 16; i++) {
            x.set(0, i, 100 + i);
        }
        for (int turn = 0; turn < 2; turn++) {
            for (int i = 0; i < 16; i++) {
                Looks.due("register(" + i + ")", x.register(i), 100 + i);
            }
            int[] none = {-1, 16, MIN, MAX, 256, -16};
            for (int i : none) {
                Looks.dueThrow("register(" + i + ")", () -> x.register(i));
            }
            x.run(1);
        }
    }

    private static void promise12Memory() {
        Looks.sentence("memory: MEMORY i. NoSuchElementException: none such");
        ScoreMachine x = new ScoreMachine();
        x.set(1, 0, 100);
        x.set(1, 15, 115);
        x.set(1, 16, 116);
        x.set(1, 255, 355);
        for (int turn = 0; turn < 2; turn++) {
            Looks.due("memory(0)", x.memory(0), 100);
            Looks.due("memory(15)", x.memory(15), 115);
            Looks.due("memory(16)", x.memory(16), 116);
            Looks.due("memory(255)", x.memory(255), 355);
            int[] none = {-1, 256, MIN, MAX, 512, -256};
            for (int i : none) {
                Looks.dueThrow("memory(" + i + ")", () -> x.memory(i));
            }
            x.run(1);
        }
    }

    private static void promise13PlainRegisters() {
        Looks.sentence("plain: REGISTER i (what 0). NoSuchElementException: none such");
        ScoreMachine x = new ScoreMachine();
        for (int i = 0; i < 16; i++) {
            x.set(0, i, 100 + i);
            Looks.due("plain(0, " + i + ")", x.plain(0, i), 100 + i);
        }
        int[] none = {-1, 16, 255, MIN, MAX};
        for (int i : none) {
            Looks.dueThrow("plain(0, " + i + ")", () -> x.plain(0, i));
        }
    }

    private static void promise13PlainMemory() {
        Looks.sentence("plain: MEMORY i (1). NoSuchElementException: none such");
        ScoreMachine x = new ScoreMachine();
        for (int i = 0; i < 256; i += 15) {
            x.set(1, i, 100 + i);
            Looks.due("plain(1, " + i + ")", x.plain(1, i), 100 + i);
        }
        int[] none = {-1, 256, MIN, MAX};
        for (int i : none) {
            Looks.dueThrow("plain(1, " + i + ")", () -> x.plain(1, i));
        }
    }

    private static void promise13PlainWhat() {
        Looks.sentence("plain: (what 0) .. (1). NoSuchElementException: none such");
        ScoreMachine x = new ScoreMachine();
        int[] none = {-1, 2, MIN, MAX};
        for (int what : none) {
            Looks.dueThrow("plain(" + what + ", 0)", () -> x.plain(what, 0));
            Looks.dueThrow("plain(" + what + ", -1)", () -> x.plain(what, -1));
            Looks.dueThrow("plain(" + what + ", 256)", () -> x.plain(what, 256));
        }
    }

    private static void promise14UnitStates() {
        Looks.sentence("unit: what 0: the PLACE .., 1: its number, 2: 1 ISSUED, 2 READ, 3 DONE"
                + " (by the CYCLE that was)");
        int[] codes = {7, 8, 11, 12, 14, 16};
        for (int kind = 0; kind < 6; kind++) {
            ScoreMachine x = new ScoreMachine();
            x.latency(3, 1);
            x.units(3, 2);
            x.latency(kind, 2);
            x.put(0, 12, 1, 9, 9);
            x.put(1, 18, 0, 0, 200);
            x.put(200, codes[kind], 2, 1, 9);
            ScoreMachine y = new ScoreMachine();
            y.latency(3, 4);
            y.latency(kind, 2);
            y.units(3, 2);
            y.put(0, 12, 1, 9, 9);
            y.put(1, codes[kind], 2, 1, 9);
            x.run(6 + (kind == 5 ? 1 : 0));
            y.run(2);
            int i = kind == 3 ? 1 : 0;
            Looks.due("PLACE", x.unit(kind, 0, 0), 200);
            Looks.due("number", x.unit(kind, 0, 1), 2);
            Looks.due("ISSUED", x.unit(kind, 0, 2), 1);
            Looks.due("PLACE", y.unit(kind, i, 0), 1);
            Looks.due("number", y.unit(kind, i, 1), 1);
            int written = kind == 3 ? 5 : 7;
            int[] states = {1, 2, 2, 3, NONE};
            for (int cycle = 2; cycle <= written; cycle++) {
                Looks.due("waits, in cycle " + cycle, y.unit(kind, i, 2), 1);
                y.run(1);
            }
            for (int j = 1; j < states.length; j++) {
                x.run(1);
                Looks.due("state " + j, x.unit(kind, 0, 2), states[j]);
                Looks.due("state " + j + " behind a wait", y.unit(kind, i, 2), states[j]);
                y.run(1);
            }
        }
    }

    private static void promise14UnitDoneWhileItWaits() {
        Looks.sentence("unit: 3 DONE (as long as it waits to be WRITTEN)");
        ScoreMachine x = new ScoreMachine();
        x.put(0, 12, 1, 9, 9);
        x.put(1, 15, 3, 1, 0);
        x.put(2, 6, 3, 0, 7);
        x.run(5);
        Looks.due("in cycle 5", x.unit(0, 0, 2), 2);
        for (int cycle = 6; cycle <= 16; cycle++) {
            x.run(1);
            Looks.due("in cycle " + cycle, x.unit(0, 0, 2), 3);
        }
        x.run(1);
        Looks.due("in the cycle of WRITTEN", x.unit(0, 0, 2), NONE);
    }

    private static void promise14UnitThere() {
        Looks.sentence("unit: NONE: no such unit");
        ScoreMachine x = new ScoreMachine();
        int[] codes = {6, 8, 11, 12};
        int at = 0;
        for (int kind = 0; kind < 4; kind++) {
            x.units(kind, 3);
            x.latency(kind, 30);
            for (int i = 0; i < 3; i++) {
                x.put(at, codes[kind], at, 15, 15);
                at++;
            }
        }
        x.latency(4, 30);
        x.latency(5, 30);
        x.put(12, 14, 12, 15, 15);
        x.put(13, 18, 0, 0, 14);
        x.run(14);
        for (int kind = -1; kind <= 6; kind++) {
            for (int i = -1; i <= 4; i++) {
                boolean there = i >= 0 && i < 3 && kind >= 0 && kind < 4
                        || i == 0 && kind >= 4 && kind < 6;
                int number = kind < 4 ? kind * 3 + i : kind + 8;
                Looks.due("unit(" + kind + ", " + i + ", 1)", x.unit(kind, i, 1),
                        there ? number : NONE);
            }
        }
        int[] far = {MIN, MAX};
        for (int f : far) {
            Looks.due("far kind", x.unit(f, 0, 1), NONE);
            Looks.due("far unit", x.unit(0, f, 1), NONE);
            Looks.due("both far", x.unit(f, f, f), NONE);
        }
    }

    private static void promise14UnitFree() {
        Looks.sentence("unit: NONE: .. it is free");
        ScoreMachine x = new ScoreMachine();
        x.put(0, 8, 1, 0, 0);
        for (int what = 0; what < 3; what++) {
            Looks.due("at CYCLE 0", x.unit(1, 0, what), NONE);
        }
        x.run(3);
        Looks.due("not yet", x.unit(1, 0, 2), 3);
        x.run(1);
        for (int what = 0; what < 3; what++) {
            Looks.due("in the cycle of WRITTEN", x.unit(1, 0, what), NONE);
        }
        x.again();
        x.run(2);
        Looks.due("again", x.unit(1, 0, 0), 0);
        x.again();
        Looks.due("again at CYCLE 0", x.unit(1, 0, 0), NONE);
    }

    private static void promise14UnitWhat() {
        Looks.sentence("unit: NONE: .. another what");
        ScoreMachine x = new ScoreMachine();
        x.put(0, 12, 1, 0, 0);
        x.run(5);
        int[] others = {-1, 3, 4, 5, MIN, MAX};
        for (int what : others) {
            Looks.due("unit(3, 0, " + what + ")", x.unit(3, 0, what), NONE);
        }
        Looks.due("unit(3, 0, 0)", x.unit(3, 0, 0), 0);
        Looks.due("unit(3, 0, 2)", x.unit(3, 0, 2), 2);
    }

    private static void promise15Pending() {
        Looks.sentence("pending: Whether an INSTRUCTION that is not WRITTEN WRITES a register: its"
                + " number; NONE if none");
        for (int register = 0; register < 16; register++) {
            ScoreMachine x = new ScoreMachine();
            x.put(0, 15, register, register, 0);
            x.put(1, 8, register, register, register);
            x.put(2, 6, register, register, 0);
            int[] due = {NONE, 1, 1, 1, NONE, 2, 2, 2, 2, NONE, NONE};
            Looks.due("at CYCLE 0", x.pending(register), NONE);
            for (int i = 0; i < due.length; i++) {
                x.run(1);
                Looks.due("in cycle " + (i + 1), x.pending(register), due[i]);
                Looks.due("of another", x.pending((register + 1) % 16), NONE);
            }
        }
    }

    private static void promise15PendingRegisters() {
        Looks.sentence("pending: NONE .. or no such register");
        ScoreMachine x = new ScoreMachine();
        x.put(0, 12, 0, 0, 0);
        x.put(1, 11, 15, 1, 1);
        x.run(2);
        Looks.due("pending(0)", x.pending(0), 0);
        Looks.due("pending(15)", x.pending(15), 1);
        int[] none = {-1, 16, 31, 256, -16, MIN, MAX};
        for (int register : none) {
            Looks.due("pending(" + register + ")", x.pending(register), NONE);
        }
    }

    /** As many as are told, one a cycle, that are all issued in the cycle of their number. */
    private static ScoreMachine issued(int many) {
        ScoreMachine x = new ScoreMachine();
        x.units(1, 3);
        for (int place = 0; place < many; place++) {
            x.put(place, 8, place % 15, 15, 15);
        }
        x.run(3000);
        return x;
    }

    private static void promise16LatestFewer() {
        Looks.sentence("latest: Of the k-th INSTRUCTION ISSUED (from the latest on) .. NONE: there"
                + " is none such");
        for (int many = 0; many <= 5; many++) {
            ScoreMachine x = issued(many);
            for (int k = 0; k <= 6; k++) {
                for (int what = 0; what <= 5; what++) {
                    boolean there = k < many;
                    boolean known = there && x.latest(k, what) != NONE;
                    Looks.due("latest(" + k + ", " + what + ") of " + many, known, there);
                }
                Looks.due("number", x.latest(k, 1), k < many ? many - 1 - k : NONE);
            }
        }
    }

    private static void promise16LatestMost() {
        Looks.sentence("latest: (from the latest on, 0 .. 63)");
        int[] all = {63, 64, 65, 66, 127, 128, 129, 200};
        for (int many : all) {
            ScoreMachine x = issued(many);
            Looks.due("count(2)", x.count(2), many);
            Looks.due("latest(0, 1)", x.latest(0, 1), many - 1);
            Looks.due("latest(62, 1)", x.latest(62, 1), many - 63);
            Looks.due("latest(63, 1)", x.latest(63, 1), many > 63 ? many - 64 : NONE);
            Looks.due("latest(63, 0)", x.latest(63, 0), many > 63 ? many - 64 : NONE);
            for (int what = 0; what <= 5; what++) {
                Looks.due("latest(64, " + what + ")", x.latest(64, what), NONE);
                Looks.due("latest(-1, " + what + ")", x.latest(-1, what), NONE);
                Looks.due("latest(max, " + what + ")", x.latest(MAX, what), NONE);
                Looks.due("latest(min, " + what + ")", x.latest(MIN, what), NONE);
            }
            x.again();
            Looks.due("again, latest(0, 1)", x.latest(0, 1), NONE);
        }
    }

    private static void promise16LatestToCome() {
        Looks.sentence("latest: 2: ISSUED, 3: READ, 4: DONE, 5: WRITTEN (each NONE, if it is a"
                + " CYCLE to come)");
        ScoreMachine x = new ScoreMachine();
        x.put(0, 12, 1, 9, 9);
        x.put(1, 7, 2, 1, 0);
        x.run(2);
        int[] cycles = {2, 16, 18, 19};
        for (int cycle = 2; cycle <= 20; cycle++) {
            Looks.due("PLACE", x.latest(0, 0), 1);
            Looks.due("number", x.latest(0, 1), 1);
            for (int i = 0; i < cycles.length; i++) {
                Looks.due("latest(0, " + (2 + i) + ") in cycle " + cycle, x.latest(0, 2 + i),
                        cycles[i] <= cycle ? cycles[i] : NONE);
            }
            x.run(1);
        }
    }

    private static void promise16LatestWhat() {
        Looks.sentence("latest: NONE: .. another what");
        ScoreMachine x = issued(70);
        int[] others = {-1, 6, 7, MIN, MAX};
        for (int what : others) {
            Looks.due("latest(0, " + what + ")", x.latest(0, what), NONE);
            Looks.due("latest(63, " + what + ")", x.latest(63, what), NONE);
        }
        Looks.due("latest(0, 5)", x.latest(0, 5) - x.latest(0, 2), 3);
    }
}
