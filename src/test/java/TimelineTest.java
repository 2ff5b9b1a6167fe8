import java.util.ArrayList;
import java.util.Comparator;
import java.util.List;

/**
 * The class beside a second reading of Terms 2, which goes by instructions and not by cycles: of one
 * after another it settles ISSUED, READ, DONE and WRITTEN by the document's sentences, and tells
 * from these alone what is to be seen in any cycle, also in runs of thousands of cycles.
 */
public final class TimelineTest {
    private static final int NONE = Looks.NONE;
    private static final int PROGRAMS = 400;
    private static final int LONG_PROGRAMS = 12;
    /** With these an object is made ready and looked at by no more than 512 calls. */
    private static final int MOST_PLACES = 70;
    private static final int MOST_RUNS = 4;

    private static final String[] READS = {
        "", "ab", "ab", "ab", "ab", "ab", "", "a", "ab", "ab", "ab", "ab", "ab", "ab", "a", "ad",
        "a", "a", ""};
    private static final int[] KIND = {NONE, 0, 0, 0, 0, 0, 0, 0, 1, 1, 1, 2, 3, 3, 4, 4, 5, 5, 5};

    private static long seed = 9L;

    public static void main(String[] args) {
        Looks.tests(TimelineTest::shortRuns, TimelineTest::longRuns);
        Looks.end();
    }

    private static void shortRuns() {
        Looks.sentence("Each but HALT has its CYCLES (of generated programs)");
        for (int i = 0; i < PROGRAMS; i++) {
            compare("program " + i, new Program(), 60);
        }
    }

    private static void longRuns() {
        Looks.sentence("Each but HALT has its CYCLES (over thousands of cycles)");
        for (int i = 0; i < LONG_PROGRAMS; i++) {
            Program program = new Program();
            program.goesRoundFor(MOST_PLACES - 1);
            compare("long program " + i, program, 2500);
        }
    }

    private static int dice(int sides) {
        seed = seed * 6364136223846793005L + 1442695040888963407L;
        return (int) ((seed >>> 33) % sides);
    }

    private static void compare(String name, Program program, int mostCycles) {
        Timeline timeline = new Timeline(program, mostCycles * (MOST_RUNS + 1));
        ArrayList<Looks.Calls> calls = new ArrayList<>();
        calls.add(program::putInto);
        int cycle = 0;
        for (int run = 0; run <= MOST_RUNS; run++) {
            Looks.Calls[] made = calls.toArray(new Looks.Calls[0]);
            Looks.dueAlike(name + ", cycle " + cycle, Looks.all(made), timeline.all(cycle));
            int n = dice(mostCycles + 1);
            int went = timeline.isOverIn(cycle + n) ? timeline.halt - cycle : n;
            Looks.due(name + ", run(" + n + ") in cycle " + cycle, Looks.after(made).run(n), went);
            calls.add(x -> x.run(n));
            cycle += went;
        }
    }

    /** What is set ahead of a run. */
    private static final class Program {
        final int[][] texts = new int[256][4];
        final int[] units = {1, 1, 1, 1, 1, 1};
        final int[] latencies = new int[6];
        final int width = 1 + dice(4);
        final long[] registers = new long[16];

        Program() {
            int many = 1 + dice(15);
            int places = 1 + dice(MOST_PLACES);
            for (int place = 0; place < places; place++) {
                int code = dice(40) == 0 ? 0 : dice(9) == 0 ? 16 + dice(3) : 1 + dice(15);
                int b = code > 15 ? dice(places) : dice(many + 1) - 16 * dice(2);
                texts[place] = new int[] {code, dice(many), dice(many), b};
            }
            for (int kind = 0; kind < 6; kind++) {
                units[kind] = kind < 4 ? 1 + dice(3) : 1;
                latencies[kind] = dice(3) == 0 ? 1 + dice(30) : 1 + dice(4);
            }
            for (int i = 0; i < 16; i++) {
                registers[i] = dice(5) == 0 ? ((long) dice(1 << 30) << 34) + dice(99) : dice(9) - 4;
            }
        }

        /** No HALT at the first places, and behind them back to the first. */
        void goesRoundFor(int places) {
            for (int place = 0; place < places; place++) {
                int[] text = texts[place];
                text[0] = text[0] == 0 || text[0] > 15 ? 1 + dice(15) : text[0];
            }
            texts[places] = new int[] {18, 0, 0, 0};
        }

        void putInto(ScoreMachine x) {
            for (int place = 0; place < MOST_PLACES; place++) {
                int[] text = texts[place];
                if (text[0] != 0) {
                    x.put(place, text[0], text[1], text[2], text[3]);
                }
            }
            for (int kind = 0; kind < 6; kind++) {
                x.units(kind, units[kind]);
                x.latency(kind, latencies[kind]);
            }
            x.width(width);
            for (int i = 0; i < 16; i++) {
                x.set(0, i, registers[i]);
            }
        }
    }

    private static final class Instruction {
        int number;
        int place;
        int kind;
        int unit;
        /** A bit for each register. */
        int reads;
        int writes;
        /** NONE, but for a store. */
        int cell = NONE;
        long value;
        int issued;
        int read;
        int done;
        int written;

        void goInto(long[] registers, long[] memory) {
            if (cell != NONE) {
                memory[cell] = value;
            } else if (writes != 0) {
                registers[Integer.numberOfTrailingZeros(writes)] = value;
            }
        }
    }

    private static final class Timeline {
        final Program program;
        final List<Instruction> all = new ArrayList<>();
        /** Of each stall its cycle and what hindered. */
        final List<int[]> stalls = new ArrayList<>();
        int halt = NONE;
        int place = 0;
        private final long[] registers;
        private final long[] memory = new long[256];

        Timeline(Program program, int cycles) {
            this.program = program;
            registers = program.registers.clone();
            while (lastIssued() <= cycles && program.texts[place][0] != 0) {
                all.add(next());
            }
            if (program.texts[place][0] == 0) {
                halt = lastIssued();
                for (Instruction y : all) {
                    halt = Math.max(halt, y.written + 1);
                }
            }
        }

        private int lastIssued() {
            return all.isEmpty() ? 1 : all.get(all.size() - 1).issued;
        }

        private Instruction next() {
            Instruction x = new Instruction();
            int[] text = program.texts[place];
            String letters = READS[text[0]];
            x.number = all.size();
            x.place = place;
            x.kind = KIND[text[0]];
            x.reads = (letters.indexOf('a') >= 0 ? 1 << text[2] : 0)
                    | (letters.indexOf('b') >= 0 ? 1 << Math.floorMod(text[3], 16) : 0)
                    | (letters.indexOf('d') >= 0 ? 1 << text[1] : 0);
            x.writes = text[0] < 15 ? 1 << text[1] : 0;
            issue(x);
            x.read = x.issued + 1;
            for (Instruction y : all) {
                x.read = (y.writes & x.reads) != 0 ? Math.max(x.read, y.written + 1) : x.read;
            }
            x.done = x.read + program.latencies[x.kind];
            x.written = x.done + 1;
            for (Instruction y : all) {
                x.written = (y.reads & x.writes) != 0 ? Math.max(x.written, y.read + 1) : x.written;
            }
            step(x, text);
            return x;
        }

        private void issue(Instruction x) {
            int cycle = lastIssued();
            while (issuedIn(cycle) >= program.width || hinders(x, cycle) != 0) {
                if (issuedIn(cycle) < program.width) {
                    stalls.add(new int[] {cycle, hinders(x, cycle)});
                }
                cycle++;
            }
            x.issued = cycle;
            while (isTaken(x.kind, x.unit, cycle)) {
                x.unit++;
            }
        }

        private int issuedIn(int cycle) {
            int many = 0;
            for (int i = all.size() - 1; i >= 0 && all.get(i).issued == cycle; i--) {
                many++;
            }
            return many;
        }

        private int hinders(Instruction x, int cycle) {
            boolean isFree = false;
            for (int unit = 0; unit < program.units[x.kind]; unit++) {
                isFree |= !isTaken(x.kind, unit, cycle);
            }
            boolean same = false;
            for (Instruction y : all) {
                same |= y.written >= cycle && (y.writes & x.writes) != 0;
            }
            return isTaken(5, 0, cycle) ? 1 : !isFree ? 2 : same ? 3 : 0;
        }

        private boolean isTaken(int kind, int unit, int cycle) {
            for (Instruction y : all) {
                if (y.kind == kind && y.unit == unit && y.written >= cycle) {
                    return true;
                }
            }
            return false;
        }

        private void step(Instruction x, int[] text) {
            long a = registers[text[2]];
            int n = text[3];
            boolean goes = text[0] == 18 || text[0] == 17 && a < 0 || text[0] == 16 && a == 0;
            if (text[0] == 15) {
                x.cell = (int) Math.floorMod(a + n, 256L);
                x.value = registers[text[1]];
            } else if (x.writes != 0) {
                x.value = value(text[0], a, registers[Math.floorMod(n, 16)], n);
            }
            x.goInto(registers, memory);
            place = Math.floorMod(goes ? n : place + 1, 256);
        }

        private long value(int code, long a, long b, int n) {
            switch (code) {
                case 1: return a + b;
                case 2: return a - b;
                case 3: return a & b;
                case 4: return a | b;
                case 5: return a ^ b;
                case 6: return n;
                case 7: return a + n;
                case 8: return a << b;
                case 9: return a >> b;
                case 10: return a >>> b;
                case 11: return a * b;
                case 12: return b == 0 ? 0 : a / b;
                case 13: return b == 0 ? 0 : a % b;
                default: return memory[(int) Math.floorMod(a + n, 256L)];
            }
        }

        boolean isOverIn(int cycle) {
            return halt != NONE && halt <= cycle;
        }

        /** All that is to be seen in a cycle, in the order of Looks.all. */
        long[] all(int cycle) {
            List<Instruction> issued = new ArrayList<>();
            List<Instruction> written = new ArrayList<>();
            List<Instruction> underWay = new ArrayList<>();
            for (Instruction x : all) {
                if (x.issued <= cycle) {
                    issued.add(x);
                    (x.written <= cycle ? written : underWay).add(x);
                }
            }
            written.sort(Comparator.comparingInt(x -> x.written));
            ArrayList<Long> told = new ArrayList<>();
            tellCounts(cycle, issued.size(), underWay, told);
            tellRegisters(held(written), held(issued), underWay, told);
            tellUnits(cycle, underWay, told);
            tellMemory(held(written), told);
            tellMemory(held(issued), told);
            for (int k = 0; k < 64; k++) {
                tellLatest(k < issued.size() ? issued.get(issued.size() - 1 - k) : null, cycle, told);
            }
            return told.stream().mapToLong(Long::longValue).toArray();
        }

        /** The registers and the memory with what these have put into them, one after another. */
        private long[][] held(List<Instruction> ones) {
            long[][] held = {program.registers.clone(), new long[256]};
            ones.forEach(x -> x.goInto(held[0], held[1]));
            return held;
        }

        private void tellCounts(int cycle, int issued, List<Instruction> underWay,
                List<Long> told) {
            long[] byWhat = new long[4];
            for (int[] stall : stalls) {
                byWhat[stall[1]] += stall[0] <= cycle ? 1 : 0;
            }
            boolean hidden = false;
            for (Instruction x : underWay) {
                hidden |= x.kind == 5;
            }
            told.add((long) cycle);
            told.add(isOverIn(cycle) ? 1L : 0L);
            told.add((long) issued);
            told.add((long) underWay.size());
            told.add(byWhat[1]);
            told.add(byWhat[2]);
            told.add(byWhat[3]);
            told.add(hidden ? NONE : issued < all.size() ? all.get(issued).place : (long) place);
            told.add((long) issued - underWay.size());
        }

        private static void tellRegisters(long[][] held, long[][] heldPlain,
                List<Instruction> underWay, List<Long> told) {
            for (int i = 0; i < 16; i++) {
                long pending = NONE;
                for (Instruction x : underWay) {
                    pending = x.writes == 1 << i ? x.number : pending;
                }
                told.add(held[0][i]);
                told.add(heldPlain[0][i]);
                told.add(pending);
            }
        }

        private static void tellUnits(int cycle, List<Instruction> underWay, List<Long> told) {
            for (int i = 0; i < 6 * 3; i++) {
                Instruction in = null;
                for (Instruction x : underWay) {
                    in = x.kind * 3 + x.unit == i ? x : in;
                }
                told.add(in == null ? NONE : (long) in.place);
                told.add(in == null ? NONE : (long) in.number);
                told.add(in == null ? NONE : in.done <= cycle ? 3L : in.read <= cycle ? 2L : 1L);
            }
        }

        private static void tellMemory(long[][] held, List<Long> told) {
            for (long cell : held[1]) {
                told.add(cell);
            }
        }

        private static void tellLatest(Instruction x, int cycle, List<Long> told) {
            int[] row = x == null ? new int[] {NONE, NONE, NONE, NONE, NONE, NONE}
                    : new int[] {x.place, x.number, x.issued, x.read, x.done, x.written};
            for (int what = 0; what < row.length; what++) {
                told.add(what >= 2 && row[what] > cycle ? NONE : (long) row[what]);
            }
        }
    }
}
