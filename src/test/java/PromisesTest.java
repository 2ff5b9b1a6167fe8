import java.util.NoSuchElementException;

/** Each promise by hand: ordinary inputs, the edges that the document names, wrong inputs. */
public final class PromisesTest {
    private static final int NONE = ScoreMachine.NONE;
    private static final int MIN = Integer.MIN_VALUE;
    private static final int MAX = Integer.MAX_VALUE;
    private static int wrong = 0;

    public static void main(String[] args) {
        promise1NewObject();
        promise2Put();
        promise2PutFields();
        promise3Units();
        promise4Latency();
        promise5Width();
        promise6Set();
        promise7Run();
        promise7RunGoesRound();
        promise8Again();
        promise9Clear();
        promise10Count();
        promise10StallsInOrder();
        promise10HaltBehindBranch();
        promise11Register();
        promise12Memory();
        promise13Plain();
        promise14Unit();
        promise15Pending();
        promise16Latest();
        term1Values();
        term1Branches();
        term1ShiftsAndDivisions();
        term2WriteWaitsForReader();
        term2LongStayInUnit();
        System.out.println(wrong == 0 ? "all promises hold" : wrong + " answers are not as due");
        if (wrong != 0) {
            System.exit(1);
        }
    }

    private static void due(String what, long got, long want) {
        if (got != want) {
            wrong++;
            System.out.println(what + " answered " + got + ", due is " + want);
        }
    }

    private static void due(String what, boolean got, boolean want) {
        due(what, got ? 1 : 0, want ? 1 : 0);
    }

    private interface Call {
        long answer();
    }

    private static void throwsNoSuchElement(String what, Call call) {
        try {
            long got = call.answer();
            wrong++;
            System.out.println(what + " answered " + got + ", due is NoSuchElementException");
        } catch (NoSuchElementException e) {
            return;
        }
    }

    /** Looks at everything that must be so at CYCLE 0 with nothing set. */
    private static void isNew(String when, ScoreMachine x) {
        for (int what = 0; what <= 8; what++) {
            due(when + " count(" + what + ")", x.count(what), 0);
        }
        for (int i = 0; i < 16; i++) {
            due(when + " register", x.register(i), 0);
            due(when + " plain register", x.plain(0, i), 0);
            due(when + " pending", x.pending(i), NONE);
        }
        for (int i = 0; i < 256; i++) {
            due(when + " memory", x.memory(i), 0);
            due(when + " plain memory", x.plain(1, i), 0);
        }
        for (int kind = 0; kind < 6; kind++) {
            for (int what = 0; what < 3; what++) {
                due(when + " unit", x.unit(kind, 0, what), NONE);
            }
        }
        due(when + " latest", x.latest(0, 0), NONE);
    }

    /** One instruction of a kind, alone, is over in issue 1, read 2, latency, write, halt. */
    private static int cyclesOfOne(int code) {
        ScoreMachine x = new ScoreMachine();
        x.put(0, code, 1, 2, 1);
        x.run(3000);
        return x.count(0);
    }

    private static void promise1NewObject() {
        ScoreMachine x = new ScoreMachine();
        isNew("new", x);
        int[] codes = {1, 8, 11, 12, 14, 18};
        int[] latencies = {2, 1, 6, 12, 3, 1};
        for (int kind = 0; kind < 6; kind++) {
            due("first latency of " + kind, cyclesOfOne(codes[kind]), 4 + latencies[kind]);
        }
        x.put(0, 6, 1, 0, 1);
        x.put(1, 8, 2, 0, 1);
        x.put(2, 6, 3, 0, 1);
        x.run(1);
        due("first width", x.count(2), 1);
        x.run(2);
        due("first units", x.count(2), 2);
        due("first units, stall", x.count(5), 1);
    }

    private static void promise2Put() {
        ScoreMachine x = new ScoreMachine();
        due("put first", x.put(0, 0, 0, 0, 0), true);
        due("put last", x.put(255, 18, 15, 15, MIN), true);
        due("put b", x.put(255, 18, 15, 15, MAX), true);
        due("put place -1", x.put(-1, 6, 1, 0, 5), false);
        due("put place 256", x.put(256, 6, 1, 0, 5), false);
        due("put place min", x.put(MIN, 6, 1, 0, 5), false);
        due("put place max", x.put(MAX, 6, 1, 0, 5), false);
        due("put code -1", x.put(0, -1, 1, 0, 5), false);
        due("put code 19", x.put(0, 19, 1, 0, 5), false);
        due("put d -1", x.put(0, 6, -1, 0, 5), false);
        due("put d 16", x.put(0, 6, 16, 0, 5), false);
        due("put a -1", x.put(0, 6, 1, -1, 5), false);
        due("put a 16", x.put(0, 6, 1, 16, 5), false);
        x.run(0);
        due("put behind run(0)", x.put(0, 0, 0, 0, 0), true);
        due("nothing refused was put", x.run(5), 1);
        due("put in the run", x.put(0, 6, 1, 0, 5), false);
        x.again();
        due("put refused in the run changed nothing", x.run(5), 1);
        x.again();
        due("put again", x.put(0, 6, 1, 0, 5), true);
        due("put again took", x.run(50), 6);
    }

    private static void promise2PutFields() {
        ScoreMachine x = new ScoreMachine();
        x.set(0, 14, 1000);
        x.set(0, 13, 1);
        x.put(0, 2, 15, 14, -3);
        x.put(1, 6, 15, 0, 2);
        x.put(0, 2, 12, 14, -3);
        x.run(100);
        due("b % 16 from 0 on", x.register(12), 999);
        due("d of another", x.register(15), 2);
    }

    private static void promise3Units() {
        ScoreMachine x = new ScoreMachine();
        for (int kind = 0; kind < 4; kind++) {
            for (int many = 1; many <= 3; many++) {
                due("units", x.units(kind, many), true);
            }
            due("units 0", x.units(kind, 0), false);
            due("units 4", x.units(kind, 4), false);
            due("units min", x.units(kind, MIN), false);
        }
        due("units of 4", x.units(4, 1), false);
        due("units of 5", x.units(5, 1), false);
        due("units of 6", x.units(6, 1), false);
        due("units of -1", x.units(-1, 1), false);
        x.units(0, 2);
        for (int place = 0; place < 4; place++) {
            x.put(place, 6, place, 0, place);
        }
        x.width(4);
        x.run(1);
        due("two units", x.count(2), 2);
        due("third hindered", x.count(5), 1);
        due("units in the run", x.units(0, 3), false);
        x.again();
        x.run(1);
        due("refused units changed nothing", x.count(2), 2);
    }

    private static void promise4Latency() {
        int[] codes = {1, 8, 11, 12, 14, 18};
        for (int kind = 0; kind < 6; kind++) {
            ScoreMachine x = new ScoreMachine();
            x.put(0, codes[kind], 1, 2, 1);
            due("latency 1", x.latency(kind, 1), true);
            due("latency 0", x.latency(kind, 0), false);
            due("latency 31", x.latency(kind, 31), false);
            due("latency min", x.latency(kind, MIN), false);
            due("latency 1 took", x.run(100), 5);
            due("latency in the run", x.latency(kind, 30), false);
            x.again();
            due("latency 1 stays", x.run(100), 5);
            x.again();
            due("latency 30", x.latency(kind, 30), true);
            due("latency 30 took", x.run(100), 34);
        }
        ScoreMachine x = new ScoreMachine();
        due("latency of -1", x.latency(-1, 1), false);
        due("latency of 6", x.latency(6, 1), false);
        due("latency of max", x.latency(MAX, 1), false);
    }

    private static void promise5Width() {
        for (int n = 1; n <= 4; n++) {
            ScoreMachine x = new ScoreMachine();
            due("width", x.width(n), true);
            due("width 0", x.width(0), false);
            due("width 5", x.width(5), false);
            due("width -1", x.width(-1), false);
            x.units(0, 3);
            x.units(1, 3);
            for (int place = 0; place < 6; place++) {
                x.put(place, place % 2 == 0 ? 6 : 8, place, 15, 15);
            }
            x.run(1);
            due("width took", x.count(2), n);
            due("full width is no stall", x.count(4) + x.count(5) + x.count(6), 0);
            due("width in the run", x.width(4), false);
            x.again();
            x.run(1);
            due("refused width changed nothing", x.count(2), n);
        }
    }

    private static void promise6Set() {
        ScoreMachine x = new ScoreMachine();
        due("set register 0", x.set(0, 0, Long.MIN_VALUE), true);
        due("set register 15", x.set(0, 15, Long.MAX_VALUE), true);
        due("set memory 0", x.set(1, 0, -7), true);
        due("set memory 255", x.set(1, 255, 8), true);
        due("set register -1", x.set(0, -1, 1), false);
        due("set register 16", x.set(0, 16, 1), false);
        due("set memory -1", x.set(1, -1, 1), false);
        due("set memory 256", x.set(1, 256, 1), false);
        due("set what 2", x.set(2, 0, 1), false);
        due("set what -1", x.set(-1, 0, 1), false);
        due("register 0", x.register(0), Long.MIN_VALUE);
        due("register 15", x.register(15), Long.MAX_VALUE);
        due("memory 0", x.memory(0), -7);
        due("memory 255", x.memory(255), 8);
        due("plain 0", x.plain(0, 0), Long.MIN_VALUE);
        due("plain memory", x.plain(1, 255), 8);
        x.run(1);
        due("set in the run", x.set(0, 0, 1), false);
        due("set memory in the run", x.set(1, 0, 1), false);
        due("register 0 stays", x.register(0), Long.MIN_VALUE);
        x.again();
        due("register 0 begins", x.register(0), Long.MIN_VALUE);
        due("memory 0 begins", x.memory(0), -7);
    }

    private static void promise7Run() {
        ScoreMachine x = new ScoreMachine();
        x.put(0, 18, 0, 0, 0);
        due("run -1", x.run(-1), NONE);
        due("run 3001", x.run(3001), NONE);
        due("run min", x.run(MIN), NONE);
        due("run max", x.run(MAX), NONE);
        due("no cycle went", x.count(0), 0);
        due("run 0", x.run(0), 0);
        due("run 3000", x.run(3000), 3000);
        due("run 3000 more", x.run(3000), 3000);
        due("cycle", x.count(0), 6000);
        due("never over", x.count(1), 0);
        due("a branch each four cycles", x.count(2), 1500);
        ScoreMachine y = new ScoreMachine();
        due("halt", y.run(3000), 1);
        due("over", y.run(3000), 0);
        due("over, wrong n", y.run(3001), NONE);
        due("cycles do not go on", y.count(0), 1);
    }

    private static void promise7RunGoesRound() {
        ScoreMachine x = new ScoreMachine();
        x.put(0, 18, 0, 0, -1);
        x.put(255, 6, 3, 0, 9);
        x.run(1);
        due("next is hidden", x.count(7), NONE);
        x.run(3);
        due("next is 255", x.count(7), 255);
        x.run(1);
        due("behind 255 comes 0", x.count(7), 0);
        due("latest place", x.latest(0, 0), 255);
    }

    private static void promise8Again() {
        ScoreMachine x = new ScoreMachine();
        x.set(0, 1, 40);
        x.set(1, 42, 5);
        x.width(2);
        x.units(0, 2);
        x.latency(0, 5);
        x.put(0, 7, 1, 1, 2);
        x.put(1, 15, 1, 1, 0);
        x.put(2, 7, 1, 1, 2);
        x.put(3, 18, 0, 0, 0);
        x.run(25);
        x.again();
        due("again cycle", x.count(0), 0);
        for (int what = 0; what <= 8; what++) {
            due("again count(" + what + ")", x.count(what), 0);
        }
        due("again register", x.register(1), 40);
        due("again memory", x.memory(42), 5);
        due("again plain", x.plain(0, 1), 40);
        due("again plain memory", x.plain(1, 42), 5);
        due("again pending", x.pending(1), NONE);
        due("again latest", x.latest(0, 1), NONE);
        due("again unit", x.unit(0, 0, 1), NONE);
        x.run(1);
        due("again width and program", x.count(2), 2);
        due("again stall", x.count(6), 0);
        x.run(7);
        due("again latency", x.register(1), 42);
        x.again();
        x.put(0, 0, 0, 0, 0);
        due("over", x.run(10), 1);
        x.again();
        due("again is not over", x.count(1), 0);
        due("again goes", x.run(10), 1);
    }

    private static void promise9Clear() {
        ScoreMachine x = new ScoreMachine();
        x.set(0, 1, 40);
        x.set(1, 42, 5);
        x.width(4);
        x.units(0, 3);
        x.latency(0, 5);
        for (int place = 0; place < 256; place++) {
            x.put(place, 7, place % 16, 1, 2);
        }
        x.run(40);
        x.clear();
        isNew("cleared", x);
        due("cleared program", x.run(10), 1);
        x.clear();
        x.put(0, 6, 1, 0, 1);
        x.put(1, 6, 2, 0, 2);
        x.run(1);
        due("cleared width", x.count(2), 1);
        x.run(1);
        due("cleared units", x.count(5), 1);
        due("cleared units, none beside", x.unit(0, 1, 0), NONE);
        x.run(3);
        due("cleared latency", x.register(1), 1);
    }

    private static void promise10Count() {
        ScoreMachine x = new ScoreMachine();
        x.put(0, 6, 1, 0, 1);
        x.put(1, 11, 2, 1, 1);
        x.run(4);
        due("cycle", x.count(0), 4);
        due("over", x.count(1), 0);
        due("issued", x.count(2), 2);
        due("not written", x.count(3), 2);
        due("next", x.count(7), 2);
        due("written", x.count(8), 0);
        x.run(1);
        due("not written in 5", x.count(3), 1);
        due("written in 5", x.count(8), 1);
        due("halt is no stall", x.count(4) + x.count(5) + x.count(6), 0);
        x.run(100);
        due("over in the end", x.count(1), 1);
        due("cycle in the end", x.count(0), 14);
        due("place of halt", x.count(7), 2);
        due("halt is not issued", x.count(2), 2);
        int[] others = {-1, 9, 10, MIN, MAX};
        for (int what : others) {
            due("count of another", x.count(what), NONE);
        }
    }

    /** The first of 1, 2, 3 that hinders counts, each cycle once, from the issuing cycle on. */
    private static void promise10StallsInOrder() {
        ScoreMachine x = new ScoreMachine();
        x.width(2);
        x.put(0, 6, 1, 0, 1);
        x.put(1, 6, 1, 0, 2);
        x.put(2, 18, 0, 0, 3);
        x.put(3, 18, 0, 0, 4);
        x.run(1);
        due("unit ahead of same", x.count(5), 1);
        due("same is not looked at", x.count(6), 0);
        x.run(4);
        due("unit in 1 .. 5", x.count(5), 5);
        x.run(1);
        due("both issued in 6", x.count(2), 3);
        due("no stall at full width", x.count(4), 0);
        x.run(3);
        due("branch ahead of unit", x.count(4), 3);
        due("unit stays", x.count(5), 5);
        x.again();
        x.units(0, 2);
        x.run(5);
        due("same in 1 .. 5", x.count(6), 5);
        due("no unit stall", x.count(5), 0);
    }

    private static void promise10HaltBehindBranch() {
        ScoreMachine x = new ScoreMachine();
        x.put(0, 18, 0, 0, 9);
        x.run(3);
        due("next is hidden though it is halt", x.count(7), NONE);
        x.run(1);
        due("next is halt", x.count(7), 9);
        due("not over with the branch", x.count(1), 0);
        due("one more", x.run(10), 1);
        due("halt does not stall", x.count(4), 0);
    }

    private static void promise11Register() {
        ScoreMachine x = new ScoreMachine();
        x.set(0, 15, 3);
        x.put(0, 7, 15, 15, -4);
        x.run(4);
        due("register ahead of written", x.register(15), 3);
        x.run(1);
        due("register with written", x.register(15), -1);
        int[] others = {-1, 16, MIN, MAX};
        for (int i : others) {
            throwsNoSuchElement("register(" + i + ")", () -> x.register(i));
        }
    }

    private static void promise12Memory() {
        ScoreMachine x = new ScoreMachine();
        x.set(0, 1, -1);
        x.set(0, 2, 77);
        x.set(1, 255, 6);
        x.put(0, 15, 2, 1, 256);
        x.put(1, 14, 3, 1, 0);
        x.run(5);
        due("memory ahead of written", x.memory(255), 6);
        x.run(1);
        due("memory with written", x.memory(255), 77);
        due("memory beside", x.memory(254), 0);
        x.run(100);
        due("loaded", x.register(3), 77);
        int[] others = {-1, 256, MIN, MAX};
        for (int i : others) {
            throwsNoSuchElement("memory(" + i + ")", () -> x.memory(i));
        }
    }

    private static void promise13Plain() {
        ScoreMachine x = new ScoreMachine();
        x.put(0, 6, 1, 0, 5);
        x.put(1, 15, 1, 1, 0);
        x.run(1);
        due("plain is ahead", x.plain(0, 1), 5);
        due("register is not", x.register(1), 0);
        due("plain memory is not issued", x.plain(1, 5), 0);
        x.run(1);
        due("plain memory", x.plain(1, 5), 5);
        due("memory is not", x.memory(5), 0);
        int[][] others = {{0, -1}, {0, 16}, {1, -1}, {1, 256}, {2, 0}, {-1, 0}, {MIN, 0}, {0, MAX}};
        for (int[] o : others) {
            throwsNoSuchElement("plain(" + o[0] + ", " + o[1] + ")", () -> x.plain(o[0], o[1]));
        }
    }

    private static void promise14Unit() {
        ScoreMachine x = new ScoreMachine();
        x.put(0, 18, 0, 0, 7);
        x.put(7, 11, 1, 2, 3);
        x.put(8, 11, 4, 1, 3);
        x.units(2, 2);
        x.run(5);
        due("unit's place", x.unit(2, 0, 0), 7);
        due("unit's number", x.unit(2, 0, 1), 1);
        due("issued", x.unit(2, 0, 2), 1);
        x.run(1);
        due("read", x.unit(2, 0, 2), 2);
        due("the second has the next unit", x.unit(2, 1, 1), 2);
        x.run(5);
        due("read still", x.unit(2, 0, 2), 2);
        x.run(1);
        due("done", x.unit(2, 0, 2), 3);
        due("waits", x.unit(2, 1, 2), 1);
        x.run(1);
        due("written", x.unit(2, 0, 2), NONE);
        due("written, place", x.unit(2, 0, 0), NONE);
        due("other what", x.unit(2, 1, 3), NONE);
        due("other what below", x.unit(2, 1, -1), NONE);
        due("no such unit", x.unit(2, 2, 0), NONE);
        due("no such unit below", x.unit(2, -1, 0), NONE);
        due("no such kind", x.unit(6, 0, 0), NONE);
        due("no such kind below", x.unit(-1, 0, 0), NONE);
        due("far", x.unit(MAX, MAX, MAX), NONE);
        due("far below", x.unit(MIN, MIN, MIN), NONE);
    }

    private static void promise15Pending() {
        ScoreMachine x = new ScoreMachine();
        x.put(0, 8, 1, 2, 3);
        x.put(1, 15, 4, 5, 0);
        x.put(2, 6, 15, 0, 0);
        x.run(3);
        due("pending 1", x.pending(1), 0);
        due("pending 15", x.pending(15), 2);
        due("a store writes no register", x.pending(4), NONE);
        x.run(1);
        due("written", x.pending(1), NONE);
        int[] others = {-1, 16, MIN, MAX};
        for (int i : others) {
            due("pending of another", x.pending(i), NONE);
        }
    }

    private static void promise16Latest() {
        ScoreMachine x = new ScoreMachine();
        for (int place = 0; place < 100; place++) {
            x.put(place, 8, place % 16, 0, 0);
        }
        x.units(1, 3);
        x.run(1);
        due("none behind the first", x.latest(1, 0), NONE);
        due("to come: read", x.latest(0, 3), NONE);
        due("to come: done", x.latest(0, 4), NONE);
        due("to come: written", x.latest(0, 5), NONE);
        due("issued", x.latest(0, 2), 1);
        x.run(1);
        due("read", x.latest(1, 3), 2);
        x.run(1);
        due("done", x.latest(2, 4), 3);
        due("done, not written", x.latest(2, 5), NONE);
        x.run(3000);
        due("latest place", x.latest(0, 0), 99);
        due("latest number", x.latest(0, 1), 99);
        due("64th", x.latest(63, 1), 36);
        due("64th place", x.latest(63, 0), 36);
        due("65th", x.latest(64, 1), NONE);
        due("below", x.latest(-1, 1), NONE);
        due("far", x.latest(MAX, 1), NONE);
        due("far below", x.latest(MIN, 1), NONE);
        due("other what", x.latest(0, 6), NONE);
        due("other what below", x.latest(0, -1), NONE);
        due("far what", x.latest(0, MAX), NONE);
        due("written after done", x.latest(0, 5) - x.latest(0, 4), 1);
    }

    private static long worked(int code, long a, long b) {
        ScoreMachine x = new ScoreMachine();
        x.set(0, 1, a);
        x.set(0, 2, b);
        x.put(0, code, 3, 1, 2);
        x.run(100);
        due("plain alike", x.plain(0, 3), x.register(3));
        return x.register(3);
    }

    private static void term1Values() {
        due("+", worked(1, Long.MAX_VALUE, 1), Long.MIN_VALUE);
        due("-", worked(2, Long.MIN_VALUE, 1), Long.MAX_VALUE);
        due("&", worked(3, 12, 10), 8);
        due("|", worked(4, 12, 10), 14);
        due("^", worked(5, 12, 10), 6);
        due("n", worked(6, 12, 10), 2);
        due("+ n", worked(7, Long.MAX_VALUE, 10), Long.MIN_VALUE + 1);
        due("*", worked(11, 3, Long.MIN_VALUE), Long.MIN_VALUE);
        ScoreMachine x = new ScoreMachine();
        x.put(0, 6, 1, 0, MIN);
        x.put(1, 7, 2, 1, MIN);
        x.run(100);
        due("n is an int's whole range", x.register(1), MIN);
        due("n is added with its sign", x.register(2), 2L * MIN);
    }

    private static void term1ShiftsAndDivisions() {
        due("<<", worked(8, 1, 63), Long.MIN_VALUE);
        due("<< 64", worked(8, 5, 64), 5);
        due("<< -1", worked(8, 3, -1), Long.MIN_VALUE);
        due(">>", worked(9, -8, 1), -4);
        due(">> far", worked(9, -8, 1L << 40), -8);
        due(">>>", worked(10, -1, 60), 15);
        due(">>> 65", worked(10, -1, 65), Long.MAX_VALUE);
        due("/", worked(12, -7, 2), -3);
        due("/ 0", worked(12, -7, 0), 0);
        due("/ goes round", worked(12, Long.MIN_VALUE, -1), Long.MIN_VALUE);
        due("%", worked(13, -7, 2), -1);
        due("% 0", worked(13, -7, 0), 0);
        due("% goes round", worked(13, Long.MIN_VALUE, -1), 0);
    }

    private static int placeBehind(int code, long a, int n) {
        ScoreMachine x = new ScoreMachine();
        x.set(0, 4, a);
        x.put(0, code, 0, 4, n);
        x.run(100);
        return x.count(7);
    }

    private static void term1Branches() {
        due("if 0", placeBehind(16, 0, 77), 77);
        due("if 0, not", placeBehind(16, 1L << 32, 77), 1);
        due("if below", placeBehind(17, Long.MIN_VALUE, 77), 77);
        due("if below, 0", placeBehind(17, 0, 77), 1);
        due("if below, above", placeBehind(17, 1, 77), 1);
        due("always", placeBehind(18, 1, 77), 77);
        due("lowest eight bits", placeBehind(18, 1, 256 + 77), 77);
        due("lowest eight bits below 0", placeBehind(18, 1, -2), 254);
        ScoreMachine x = new ScoreMachine();
        x.put(0, 12, 4, 4, 4);
        x.put(1, 18, 4, 4, 77);
        x.run(100);
        due("always reads nothing", x.latest(0, 3), 3);
    }

    /** WRITTEN waits for one ahead that has not read the register yet. */
    private static void term2WriteWaitsForReader() {
        ScoreMachine x = new ScoreMachine();
        x.put(0, 12, 1, 2, 3);
        x.put(1, 15, 4, 1, 0);
        x.put(2, 6, 4, 0, 9);
        x.run(3000);
        due("written of the division", x.latest(2, 5), 15);
        due("read of the store", x.latest(1, 3), 16);
        due("done of the writer", x.latest(0, 4), 6);
        due("written of the writer", x.latest(0, 5), 17);
        due("stored what was ahead", x.memory(0), 0);
    }

    /** Units know their instructions even when more than 64 others were issued behind them. */
    private static void term2LongStayInUnit() {
        ScoreMachine x = new ScoreMachine();
        x.units(3, 3);
        x.latency(3, 30);
        x.units(0, 3);
        x.latency(0, 1);
        x.units(1, 3);
        x.width(4);
        x.put(0, 12, 1, 0, 0);
        x.put(1, 12, 2, 1, 0);
        x.put(2, 12, 3, 2, 0);
        for (int place = 3; place < 256; place++) {
            x.put(place, place % 2 == 0 ? 6 : 10, 4 + place % 12, 0, 0);
        }
        x.run(90);
        due("many were issued", x.count(2) > 70, true);
        due("the third is in its unit", x.unit(3, 2, 1), 2);
        due("its place", x.unit(3, 2, 0), 2);
        due("it has read", x.unit(3, 2, 2), 2);
        due("pending", x.pending(3), 2);
        due("written in all", x.count(2) - x.count(3), x.count(8));
    }
}
