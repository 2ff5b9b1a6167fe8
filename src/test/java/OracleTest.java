import java.util.ArrayList;
import java.util.NoSuchElementException;

/**
 * The class beside a slow machine that follows the document's words: it looks in each cycle at all
 * instructions ahead, and carries the values through the units, from READ to WRITTEN.
 */
public final class OracleTest {
    private static final int NONE = -1;
    private static final int PROGRAMS = 1500;

    private static final String[] READS = {
        "", "ab", "ab", "ab", "ab", "ab", "", "a", "ab", "ab", "ab", "ab", "ab", "ab", "a", "ad",
        "a", "a", ""};
    private static final String WRITES = "0111111111111110000";
    private static final String KIND = "x000000011123344555";

    private static long seed = 20261116L;
    private static int wrong = 0;
    private static final long[] seen = new long[6];

    public static void main(String[] args) {
        for (int program = 0; program < PROGRAMS && wrong < 20; program++) {
            compareOneProgram(program);
        }
        String[] names = {"branch", "unit", "same", "wait to read", "wait to write", "over"};
        for (int i = 0; i < seen.length; i++) {
            if (seen[i] == 0) {
                wrong++;
                System.out.println("the programs never showed: " + names[i]);
            }
        }
        System.out.println(wrong == 0 ? "both machines agree" : wrong + " differences");
        if (wrong != 0) {
            System.exit(1);
        }
    }

    private static int dice(int sides) {
        seed = seed * 6364136223846793005L + 1442695040888963407L;
        return (int) ((seed >>> 33) % sides);
    }

    private static long anyLong() {
        switch (dice(6)) {
            case 0: return 0;
            case 1: return dice(4) - 1;
            case 2: return Long.MIN_VALUE;
            case 3: return Long.MAX_VALUE - dice(2);
            case 4: return dice(300) - 20;
            default: return ((long) dice(1 << 30) << 34) ^ dice(1 << 30);
        }
    }

    private static int anyB(int code, int places) {
        if (code >= 16) {
            return dice(10) == 0 ? dice(1 << 30) - (1 << 29) : dice(places) - 256 * dice(2);
        }
        switch (dice(4)) {
            case 0: return dice(1 << 30) - (1 << 29);
            case 1: return dice(2) == 0 ? Integer.MIN_VALUE : Integer.MAX_VALUE;
            default: return dice(20) - 4;
        }
    }

    private static int anyCode() {
        if (dice(12) == 0) {
            return 16 + dice(3);
        }
        return dice(60) == 0 ? 0 : 1 + dice(15);
    }

    private static void setUp(ScoreMachine x, Oracle y) {
        int registers = 2 + dice(15);
        int places = 1 + dice(256);
        int first = dice(4) == 0 ? 256 - places : 0;
        for (int i = 0; i < places; i++) {
            int code = anyCode();
            int b = code < 16 && dice(2) == 0 ? dice(registers) : anyB(code, places);
            int d = dice(registers);
            int a = dice(registers);
            x.put(first + i, code, d, a, b);
            y.program[first + i] = new int[] {code, d, a, b};
        }
        for (int kind = 0; kind < 6; kind++) {
            if (kind < 4 && dice(3) > 0) {
                y.units[kind] = 1 + dice(3);
                x.units(kind, y.units[kind]);
            }
            if (dice(2) > 0) {
                y.latency[kind] = dice(4) == 0 ? 1 + dice(30) : 1 + dice(5);
                x.latency(kind, y.latency[kind]);
            }
        }
        y.width = 1 + dice(4);
        x.width(y.width);
        for (int i = 0; i < 16; i++) {
            y.firstRegisters[i] = anyLong();
            x.set(0, i, y.firstRegisters[i]);
        }
        for (int i = 0; i < 256; i += 1 + dice(9)) {
            y.firstMemory[i] = anyLong();
            x.set(1, i, y.firstMemory[i]);
        }
    }

    private static void compareOneProgram(int program) {
        ScoreMachine x = new ScoreMachine();
        if (dice(3) == 0) {
            setUp(x, new Oracle());
            x.run(dice(100));
            x.clear();
        }
        Oracle y = new Oracle();
        setUp(x, y);
        if (dice(3) == 0) {
            x.run(dice(100));
            x.again();
        }
        y.begin();
        compareAll(program, x, y);
        int looks = 4 + dice(12);
        for (int look = 0; look < looks; look++) {
            int n = dice(3) == 0 ? 1 : dice(40);
            due(program, y, "run(" + n + ")", x.run(n), y.run(n));
            compareAll(program, x, y);
        }
        y.tellWhatWasSeen();
    }

    private static void due(int program, Oracle y, String call, long got, long want) {
        if (got != want && wrong++ < 20) {
            System.out.println("program " + program + ", cycle " + y.cycle + ": " + call
                    + " answered " + got + ", due is " + want);
        }
    }

    private static void compareAll(int program, ScoreMachine x, Oracle y) {
        for (int what = -1; what <= 9; what++) {
            due(program, y, "count(" + what + ")", x.count(what), y.count(what));
        }
        for (int i = -1; i <= 16; i++) {
            due(program, y, "pending(" + i + ")", x.pending(i), y.pending(i));
        }
        for (int i = 0; i < 16; i++) {
            due(program, y, "register(" + i + ")", x.register(i), y.registers[i]);
            due(program, y, "plain(0, " + i + ")", x.plain(0, i), y.plainRegisters[i]);
        }
        for (int i = 0; i < 256; i++) {
            due(program, y, "memory(" + i + ")", x.memory(i), y.memory[i]);
            due(program, y, "plain(1, " + i + ")", x.plain(1, i), y.plainMemory[i]);
        }
        for (int kind = -1; kind <= 6; kind++) {
            for (int i = -1; i <= 3; i++) {
                for (int what = -1; what <= 3; what++) {
                    due(program, y, "unit(" + kind + ", " + i + ", " + what + ")",
                            x.unit(kind, i, what), y.unit(kind, i, what));
                }
            }
        }
        for (int k = -1; k <= 65; k++) {
            for (int what = -1; what <= 6; what++) {
                due(program, y, "latest(" + k + ", " + what + ")",
                        x.latest(k, what), y.latest(k, what));
            }
        }
        strayCalls(program, x, y);
    }

    /** Refused calls in between change nothing, and nothing but what is named is thrown. */
    private static void strayCalls(int program, ScoreMachine x, Oracle y) {
        int i = dice(1 << 30) - (1 << 29);
        boolean taken = y.cycle > 0 && (x.put(dice(256), dice(19), dice(16), dice(16), i)
                || x.units(dice(4), 1 + dice(3)) || x.latency(dice(6), 1 + dice(30))
                || x.width(1 + dice(4)) || x.set(dice(2), dice(16), i));
        due(program, y, "a call refused in the run", taken ? 1 : 0, 0);
        due(program, y, "run(-1)", x.run(-1 - dice(1 << 30)), NONE);
        due(program, y, "run(3001)", x.run(3001 + dice(1 << 30)), NONE);
        int far = dice(2) == 0 ? 256 + dice(1 << 30) : -1 - dice(1 << 30);
        int thrown = 0;
        try {
            x.register(far);
        } catch (NoSuchElementException e) {
            thrown++;
        }
        try {
            x.memory(far);
        } catch (NoSuchElementException e) {
            thrown++;
        }
        try {
            x.plain(dice(4) - 1, far);
        } catch (NoSuchElementException e) {
            thrown++;
        }
        due(program, y, "how many of three throw", thrown, 3);
    }

    private static final class Instruction {
        int place;
        int number;
        int[] text;
        int kind;
        int unit;
        int issued = NONE;
        int read = NONE;
        int done = NONE;
        int written = NONE;
        long a;
        long b;
        long d;
        boolean waitedToRead;
        boolean waitedToWrite;

        int code() {
            return text[0];
        }

        boolean reads(int register) {
            String letters = READS[code()];
            return letters.indexOf('a') >= 0 && text[2] == register
                    || letters.indexOf('b') >= 0 && Math.floorMod(text[3], 16) == register
                    || letters.indexOf('d') >= 0 && text[1] == register;
        }

        boolean writes(int register) {
            return WRITES.charAt(code()) == '1' && text[1] == register;
        }
    }

    private static boolean aheadOf(int cycle, int when) {
        return when != NONE && when < cycle;
    }

    private static final class Oracle {
        final int[][] program = new int[256][4];
        final int[] units = {1, 1, 1, 1, 1, 1};
        final int[] latency = {2, 1, 6, 12, 3, 1};
        int width = 1;
        final long[] firstRegisters = new long[16];
        final long[] firstMemory = new long[256];

        final ArrayList<Instruction> all = new ArrayList<>();
        int cycle;
        boolean over;
        final int[] stalls = new int[4];
        long[] registers;
        long[] memory;
        long[] plainRegisters;
        long[] plainMemory;
        int plainPlace;

        void begin() {
            registers = firstRegisters.clone();
            memory = firstMemory.clone();
            plainRegisters = firstRegisters.clone();
            plainMemory = firstMemory.clone();
        }

        int run(int n) {
            int went = 0;
            while (went < n && !over) {
                goOneCycle();
                went++;
            }
            return went;
        }

        void goOneCycle() {
            cycle++;
            for (Instruction x : all) {
                if (x.read == NONE && x.issued < cycle) {
                    tryToRead(x);
                }
                if (x.read != NONE && x.read + latency[x.kind] == cycle) {
                    x.done = cycle;
                }
            }
            ArrayList<Instruction> writing = new ArrayList<>();
            for (Instruction x : all) {
                if (x.written == NONE && aheadOf(cycle, x.done) && mayWrite(x)) {
                    writing.add(x);
                }
            }
            for (Instruction x : writing) {
                x.written = cycle;
            }
            issueSome();
            for (Instruction x : writing) {
                write(x);
            }
        }

        void tryToRead(Instruction x) {
            for (int i = 0; i < x.number; i++) {
                Instruction y = all.get(i);
                for (int r = 0; r < 16; r++) {
                    if (x.reads(r) && y.writes(r) && !aheadOf(cycle, y.written)) {
                        x.waitedToRead = true;
                        return;
                    }
                }
            }
            x.read = cycle;
            x.d = registers[x.text[1]];
            x.a = registers[x.text[2]];
            x.b = registers[Math.floorMod(x.text[3], 16)];
        }

        boolean mayWrite(Instruction x) {
            for (int i = 0; i < x.number; i++) {
                Instruction y = all.get(i);
                for (int r = 0; r < 16; r++) {
                    if (x.writes(r) && y.reads(r) && !aheadOf(cycle, y.read)) {
                        x.waitedToWrite = true;
                        return false;
                    }
                }
            }
            return true;
        }

        void write(Instruction x) {
            if (x.code() == 15) {
                memory[(int) Math.floorMod(x.a + x.text[3], 256L)] = x.d;
            } else if (WRITES.charAt(x.code()) == '1') {
                registers[x.text[1]] = value(x.code(), x.a, x.b, x.text[3], memory);
            }
        }

        void issueSome() {
            int many = 0;
            while (many < width) {
                if (program[plainPlace][0] == 0) {
                    over = allWrittenAhead();
                    return;
                }
                Instruction x = new Instruction();
                x.place = plainPlace;
                x.number = all.size();
                x.text = program[plainPlace];
                x.kind = KIND.charAt(x.code()) - '0';
                int hinders = hindrance(x);
                if (hinders != 0) {
                    stalls[hinders]++;
                    return;
                }
                x.issued = cycle;
                all.add(x);
                plainStep();
                many++;
            }
        }

        boolean allWrittenAhead() {
            for (Instruction y : all) {
                if (!aheadOf(cycle, y.written)) {
                    return false;
                }
            }
            return true;
        }

        int hindrance(Instruction x) {
            boolean[] taken = new boolean[3];
            boolean same = false;
            for (Instruction y : all) {
                if (aheadOf(cycle, y.written)) {
                    continue;
                }
                if (y.kind == 5) {
                    return 1;
                }
                if (y.kind == x.kind) {
                    taken[y.unit] = true;
                }
                same |= WRITES.charAt(x.code()) == '1' && y.writes(x.text[1]);
            }
            x.unit = NONE;
            for (int i = units[x.kind] - 1; i >= 0; i--) {
                x.unit = taken[i] ? x.unit : i;
            }
            if (x.unit == NONE) {
                return 2;
            }
            return same ? 3 : 0;
        }

        void plainStep() {
            int[] t = program[plainPlace];
            long a = plainRegisters[t[2]];
            long b = plainRegisters[Math.floorMod(t[3], 16)];
            boolean goes = t[0] == 18 || t[0] == 17 && a < 0 || t[0] == 16 && a == 0;
            if (t[0] == 15) {
                plainMemory[(int) Math.floorMod(a + t[3], 256L)] = plainRegisters[t[1]];
            } else if (WRITES.charAt(t[0]) == '1') {
                plainRegisters[t[1]] = value(t[0], a, b, t[3], plainMemory);
            }
            plainPlace = Math.floorMod(goes ? t[3] : plainPlace + 1, 256);
        }

        static long value(int code, long a, long b, int n, long[] memory) {
            int shift = (int) Math.floorMod(b, 64L);
            switch (code) {
                case 1: return a + b;
                case 2: return a - b;
                case 3: return a & b;
                case 4: return a | b;
                case 5: return a ^ b;
                case 6: return n;
                case 7: return a + n;
                case 8: return a << shift;
                case 9: return a >> shift;
                case 10: return a >>> shift;
                case 11: return a * b;
                case 12: return b == 0 ? 0 : a / b;
                case 13: return b == 0 ? 0 : a % b;
                default: return memory[(int) Math.floorMod(a + n, 256L)];
            }
        }

        int count(int what) {
            int written = 0;
            boolean branch = false;
            for (Instruction y : all) {
                written += y.written == NONE ? 0 : 1;
                branch |= y.kind == 5 && y.written == NONE;
            }
            switch (what) {
                case 0: return cycle;
                case 1: return over ? 1 : 0;
                case 2: return all.size();
                case 3: return all.size() - written;
                case 4: case 5: case 6: return stalls[what - 3];
                case 7: return branch ? NONE : plainPlace;
                case 8: return written;
                default: return NONE;
            }
        }

        int unit(int kind, int i, int what) {
            for (Instruction y : all) {
                if (y.kind == kind && y.unit == i && y.written == NONE) {
                    int state = y.done != NONE ? 3 : y.read != NONE ? 2 : 1;
                    return what == 0 ? y.place : what == 1 ? y.number : what == 2 ? state : NONE;
                }
            }
            return NONE;
        }

        int pending(int register) {
            for (Instruction y : all) {
                if (y.writes(register) && y.written == NONE) {
                    return y.number;
                }
            }
            return NONE;
        }

        int latest(int k, int what) {
            if (k < 0 || k > 63 || k >= all.size()) {
                return NONE;
            }
            Instruction y = all.get(all.size() - 1 - k);
            int[] row = {y.place, y.number, y.issued, y.read, y.done, y.written};
            return what < 0 || what >= row.length ? NONE : row[what];
        }

        void tellWhatWasSeen() {
            for (int i = 1; i <= 3; i++) {
                seen[i - 1] += stalls[i];
            }
            for (Instruction y : all) {
                seen[3] += y.waitedToRead ? 1 : 0;
                seen[4] += y.waitedToWrite ? 1 : 0;
            }
            seen[5] += over ? 1 : 0;
        }
    }
}
