import java.util.Arrays;
import java.util.NoSuchElementException;

/**
 * A machine with a scoreboard: instructions are issued in order to units of six kinds, read, work
 * and write as soon as none ahead of them hinders.
 *
 * <p>All cycles of an instruction follow from those of the ones ahead of it, so they are settled
 * when it is issued; the plain machine does its step in the same moment. What the registers and
 * the memory hold is then what the plain machine holds, but for what is not written yet.
 */
public final class ScoreMachine {
    public static final int NONE = -1;

    private static final int REGISTERS = 16;
    private static final int CELLS = 256;
    private static final int PLACES = 256;
    private static final int KINDS = 6;
    private static final int KINDS_WITH_MANY = 4;
    private static final int MOST_UNITS = 3;
    private static final int MOST_LATENCY = 30;
    private static final int MOST_WIDTH = 4;
    private static final int MOST_CYCLES = 3000;
    private static final int REMEMBERED = 64;

    private static final int HALT = 0;
    private static final int ADD = 1;
    private static final int SUBTRACT = 2;
    private static final int AND = 3;
    private static final int OR = 4;
    private static final int XOR = 5;
    private static final int NUMBER_ITSELF = 6;
    private static final int ADD_NUMBER = 7;
    private static final int SHIFT_LEFT = 8;
    private static final int SHIFT_RIGHT = 9;
    private static final int SHIFT_RIGHT_UNSIGNED = 10;
    private static final int MULTIPLY = 11;
    private static final int DIVIDE = 12;
    private static final int REMAINDER = 13;
    private static final int LOAD = 14;
    private static final int STORE = 15;
    private static final int GO_IF_ZERO = 16;
    private static final int GO_IF_BELOW = 17;
    private static final int GO = 18;

    private static final int BRANCH_KIND = 5;
    private static final int[] KIND_OF_CODE =
            {NONE, 0, 0, 0, 0, 0, 0, 0, 1, 1, 1, 2, 3, 3, 4, 4, 5, 5, 5};
    private static final int[] FIRST_LATENCIES = {2, 1, 6, 12, 3, 1};

    private static final int WHAT_REGISTER = 0;
    private static final int WHAT_MEMORY = 1;

    private static final int NOTHING = 0;
    private static final int BY_BRANCH = 1;
    private static final int BY_UNIT = 2;
    private static final int BY_SAME = 3;

    // The columns of a row that tells of one instruction, in the order of latest's "what".
    private static final int PLACE = 0;
    private static final int NUMBER = 1;
    private static final int ISSUED = 2;
    private static final int READ = 3;
    private static final int DONE = 4;
    private static final int WRITTEN = 5;
    private static final int COLUMNS = 6;

    private final Setup setup;
    private final PlainMachine plainMachine;
    private final Board board;

    public ScoreMachine() {
        setup = new Setup();
        plainMachine = new PlainMachine(setup);
        board = new Board(setup, plainMachine);
    }

    public boolean put(int place, int code, int d, int a, int b) {
        if (began() || !within(place, PLACES) || !within(code, KIND_OF_CODE.length)
                || !within(d, REGISTERS) || !within(a, REGISTERS)) {
            return false;
        }
        setup.codes[place] = code;
        setup.ds[place] = d;
        setup.as[place] = a;
        setup.bs[place] = b;
        return true;
    }

    public boolean units(int kind, int many) {
        if (began() || !within(kind, KINDS_WITH_MANY) || many < 1 || many > MOST_UNITS) {
            return false;
        }
        setup.unitsOf[kind] = many;
        return true;
    }

    public boolean latency(int kind, int cycles) {
        if (began() || !within(kind, KINDS) || cycles < 1 || cycles > MOST_LATENCY) {
            return false;
        }
        setup.latencies[kind] = cycles;
        return true;
    }

    public boolean width(int n) {
        if (began() || n < 1 || n > MOST_WIDTH) {
            return false;
        }
        setup.width = n;
        return true;
    }

    public boolean set(int what, int i, long v) {
        if (began() || !isThere(what, i)) {
            return false;
        }
        if (what == WHAT_REGISTER) {
            setup.registers[i] = v;
            plainMachine.registers[i] = v;
        } else {
            setup.memory[i] = v;
            plainMachine.memory[i] = v;
        }
        return true;
    }

    public int run(int n) {
        if (n < 0 || n > MOST_CYCLES) {
            return NONE;
        }
        int went = 0;
        while (went < n && !board.over) {
            board.goOneCycle();
            went++;
        }
        return went;
    }

    public void again() {
        plainMachine.begin();
        board.begin();
    }

    public void clear() {
        setup.begin();
        plainMachine.begin();
        board.begin();
    }

    public int count(int what) {
        switch (what) {
            case 0:
                return board.cycle;
            case 1:
                return board.over ? 1 : 0;
            case 2:
                return board.issued;
            case 3:
                return board.notWritten();
            case 4:
                return board.stalls[BY_BRANCH];
            case 5:
                return board.stalls[BY_UNIT];
            case 6:
                return board.stalls[BY_SAME];
            case 7:
                return board.branchWritten > board.cycle ? NONE : plainMachine.place;
            case 8:
                return board.issued - board.notWritten();
            default:
                return NONE;
        }
    }

    public long register(int i) throws NoSuchElementException {
        if (!within(i, REGISTERS)) {
            throw new NoSuchElementException("no such register");
        }
        return board.registerNow(i);
    }

    public long memory(int i) throws NoSuchElementException {
        if (!within(i, CELLS)) {
            throw new NoSuchElementException("no such memory");
        }
        return board.memoryNow(i);
    }

    public long plain(int what, int i) throws NoSuchElementException {
        if (!isThere(what, i)) {
            throw new NoSuchElementException("no such register or memory");
        }
        return what == WHAT_REGISTER ? plainMachine.registers[i] : plainMachine.memory[i];
    }

    public int unit(int kind, int i, int what) {
        if (!within(kind, KINDS) || !within(i, setup.unitsOf[kind])) {
            return NONE;
        }
        return board.tellUnit(unitRow(kind, i), what);
    }

    public int pending(int register) {
        if (!within(register, REGISTERS)) {
            return NONE;
        }
        return board.writtenAt[register] > board.cycle ? board.writer[register] : NONE;
    }

    public int latest(int k, int what) {
        if (!within(k, REMEMBERED) || k >= board.issued || !within(what, COLUMNS)) {
            return NONE;
        }
        return board.tellIssued(board.issued - 1 - k, what);
    }

    private boolean began() {
        return board.cycle != 0;
    }

    private static boolean within(int i, int many) {
        return i >= 0 && i < many;
    }

    private static boolean isThere(int what, int i) {
        return what == WHAT_REGISTER && within(i, REGISTERS)
                || what == WHAT_MEMORY && within(i, CELLS);
    }

    private static int unitRow(int kind, int i) {
        return kind * MOST_UNITS + i;
    }

    private static boolean readsA(int code) {
        return code >= ADD && code <= GO_IF_BELOW && code != NUMBER_ITSELF;
    }

    private static boolean readsB(int code) {
        return code >= ADD && code <= XOR || code >= SHIFT_LEFT && code <= REMAINDER;
    }

    private static boolean readsD(int code) {
        return code == STORE;
    }

    private static boolean writesD(int code) {
        return code >= ADD && code <= LOAD;
    }

    /** What is set ahead of the run. */
    private static final class Setup {
        final int[] codes = new int[PLACES];
        final int[] ds = new int[PLACES];
        final int[] as = new int[PLACES];
        final int[] bs = new int[PLACES];
        final int[] unitsOf = new int[KINDS];
        final int[] latencies = new int[KINDS];
        final long[] registers = new long[REGISTERS];
        final long[] memory = new long[CELLS];
        int width;

        Setup() {
            begin();
        }

        void begin() {
            Arrays.fill(codes, HALT);
            Arrays.fill(ds, 0);
            Arrays.fill(as, 0);
            Arrays.fill(bs, 0);
            Arrays.fill(unitsOf, 1);
            System.arraycopy(FIRST_LATENCIES, 0, latencies, 0, KINDS);
            Arrays.fill(registers, 0L);
            Arrays.fill(memory, 0L);
            width = 1;
        }

        /** The register B, whose number goes round at 16 from 0 on. */
        int registerB(int place) {
            return bs[place] & (REGISTERS - 1);
        }
    }

    /** Does one instruction after another; stands behind the last one issued. */
    private static final class PlainMachine {
        final Setup setup;
        final long[] registers = new long[REGISTERS];
        final long[] memory = new long[CELLS];
        int place;

        PlainMachine(Setup setup) {
            this.setup = setup;
        }

        void begin() {
            System.arraycopy(setup.registers, 0, registers, 0, REGISTERS);
            System.arraycopy(setup.memory, 0, memory, 0, CELLS);
            place = 0;
        }

        int code() {
            return setup.codes[place];
        }

        /** The memory that the instruction at this place loads or stores. */
        int cell() {
            long sum = registers[setup.as[place]] + setup.bs[place];
            return (int) (sum & (CELLS - 1));
        }

        void step() {
            int code = code();
            int d = setup.ds[place];
            if (code == STORE) {
                memory[cell()] = registers[d];
            } else if (writesD(code)) {
                registers[d] = value(code);
            }
            place = placeAfter(code);
        }

        private long value(int code) {
            if (code == LOAD) {
                return memory[cell()];
            }
            long a = registers[setup.as[place]];
            if (code == NUMBER_ITSELF) {
                return setup.bs[place];
            }
            if (code == ADD_NUMBER) {
                return a + setup.bs[place];
            }
            return worked(code, a, registers[setup.registerB(place)]);
        }

        private int placeAfter(int code) {
            long a = registers[setup.as[place]];
            boolean goes = code == GO
                    || code == GO_IF_ZERO && a == 0
                    || code == GO_IF_BELOW && a < 0;
            int next = goes ? setup.bs[place] : place + 1;
            return next & (PLACES - 1);
        }

        private static long worked(int code, long a, long b) {
            switch (code) {
                case ADD:
                    return a + b;
                case SUBTRACT:
                    return a - b;
                case AND:
                    return a & b;
                case OR:
                    return a | b;
                case XOR:
                    return a ^ b;
                case SHIFT_LEFT:
                    return a << (int) (b & 63);
                case SHIFT_RIGHT:
                    return a >> (int) (b & 63);
                case SHIFT_RIGHT_UNSIGNED:
                    return a >>> (int) (b & 63);
                case MULTIPLY:
                    return a * b;
                case DIVIDE:
                    return b == 0 ? 0 : a / b;
                case REMAINDER:
                    return b == 0 ? 0 : a % b;
                default:
                    return 0;
            }
        }
    }

    /** The scoreboard: the cycles, what is issued in them, and when it reads and writes. */
    private static final class Board {
        final Setup setup;
        final PlainMachine plainMachine;
        int cycle;
        boolean over;
        int issued;
        final int[] stalls = new int[BY_SAME + 1];

        // Of each register: who was the latest to write it, when, what it held before that, and
        // the last cycle in which one that is issued reads it.
        final int[] writer = new int[REGISTERS];
        final int[] writtenAt = new int[REGISTERS];
        final long[] heldBefore = new long[REGISTERS];
        final int[] readAt = new int[REGISTERS];

        // One store at most is under way, as its kind has one unit.
        int storeCell;
        int storeWritten;
        long storeBefore;

        int branchWritten;
        int lastWritten;

        final int[] row = new int[COLUMNS];
        // An instruction may stay in its unit for longer than 64 others are issued, so the units
        // have rows of their own.
        final int[] unitRows = new int[KINDS * MOST_UNITS * COLUMNS];
        final int[] issuedRows = new int[REMEMBERED * COLUMNS];

        Board(Setup setup, PlainMachine plainMachine) {
            this.setup = setup;
            this.plainMachine = plainMachine;
        }

        void begin() {
            cycle = 0;
            over = false;
            issued = 0;
            Arrays.fill(stalls, 0);
            Arrays.fill(writer, 0);
            Arrays.fill(writtenAt, 0);
            Arrays.fill(heldBefore, 0L);
            Arrays.fill(readAt, 0);
            storeCell = 0;
            storeWritten = 0;
            storeBefore = 0;
            branchWritten = 0;
            lastWritten = 0;
            Arrays.fill(unitRows, 0);
            Arrays.fill(issuedRows, 0);
        }

        void goOneCycle() {
            cycle++;
            for (int many = 0; many < setup.width; many++) {
                if (plainMachine.code() == HALT) {
                    over = lastWritten < cycle;
                    return;
                }
                int hindrance = tryToIssue();
                if (hindrance != NOTHING) {
                    stalls[hindrance]++;
                    return;
                }
            }
        }

        /** Issues the next instruction, or answers what hinders it. */
        private int tryToIssue() {
            int code = plainMachine.code();
            int kind = KIND_OF_CODE[code];
            if (branchWritten >= cycle) {
                return BY_BRANCH;
            }
            int i = lowestFreeUnit(kind);
            if (i == NONE) {
                return BY_UNIT;
            }
            if (writesD(code) && writtenAt[setup.ds[plainMachine.place]] >= cycle) {
                return BY_SAME;
            }
            settleCycles(code, kind);
            keepRow(unitRow(kind, i));
            noteReading(code);
            noteWriting(code, kind);
            plainMachine.step();
            issued++;
            return NOTHING;
        }

        private int lowestFreeUnit(int kind) {
            for (int i = 0; i < setup.unitsOf[kind]; i++) {
                if (unitRows[unitRow(kind, i) * COLUMNS + WRITTEN] < cycle) {
                    return i;
                }
            }
            return NONE;
        }

        private void settleCycles(int code, int kind) {
            int place = plainMachine.place;
            int ahead = cycle;
            if (readsA(code)) {
                ahead = Math.max(ahead, writtenAt[setup.as[place]]);
            }
            if (readsB(code)) {
                ahead = Math.max(ahead, writtenAt[setup.registerB(place)]);
            }
            if (readsD(code)) {
                ahead = Math.max(ahead, writtenAt[setup.ds[place]]);
            }
            int read = ahead + 1;
            int done = read + setup.latencies[kind];
            int written = done + 1;
            if (writesD(code)) {
                written = Math.max(written, readAt[setup.ds[place]] + 1);
            }
            row[PLACE] = place;
            row[NUMBER] = issued;
            row[ISSUED] = cycle;
            row[READ] = read;
            row[DONE] = done;
            row[WRITTEN] = written;
        }

        private void keepRow(int unitRow) {
            System.arraycopy(row, 0, unitRows, unitRow * COLUMNS, COLUMNS);
            System.arraycopy(row, 0, issuedRows, issuedStart(issued), COLUMNS);
        }

        private static int issuedStart(int number) {
            return (number & (REMEMBERED - 1)) * COLUMNS;
        }

        private void noteReading(int code) {
            int place = plainMachine.place;
            if (readsA(code)) {
                noteReader(setup.as[place]);
            }
            if (readsB(code)) {
                noteReader(setup.registerB(place));
            }
            if (readsD(code)) {
                noteReader(setup.ds[place]);
            }
        }

        private void noteReader(int register) {
            readAt[register] = Math.max(readAt[register], row[READ]);
        }

        private void noteWriting(int code, int kind) {
            int written = row[WRITTEN];
            lastWritten = Math.max(lastWritten, written);
            if (kind == BRANCH_KIND) {
                branchWritten = written;
            } else if (code == STORE) {
                storeCell = plainMachine.cell();
                storeWritten = written;
                storeBefore = plainMachine.memory[storeCell];
            } else {
                int d = setup.ds[plainMachine.place];
                writer[d] = issued;
                writtenAt[d] = written;
                heldBefore[d] = plainMachine.registers[d];
            }
        }

        int notWritten() {
            int many = 0;
            for (int at = WRITTEN; at < unitRows.length; at += COLUMNS) {
                if (unitRows[at] > cycle) {
                    many++;
                }
            }
            return many;
        }

        long registerNow(int i) {
            return writtenAt[i] > cycle ? heldBefore[i] : plainMachine.registers[i];
        }

        long memoryNow(int i) {
            return i == storeCell && storeWritten > cycle ? storeBefore : plainMachine.memory[i];
        }

        int tellUnit(int unitRow, int what) {
            int start = unitRow * COLUMNS;
            if (unitRows[start + WRITTEN] <= cycle) {
                return NONE;
            }
            switch (what) {
                case 0:
                    return unitRows[start + PLACE];
                case 1:
                    return unitRows[start + NUMBER];
                case 2:
                    return unitRows[start + DONE] <= cycle ? 3
                            : unitRows[start + READ] <= cycle ? 2 : 1;
                default:
                    return NONE;
            }
        }

        int tellIssued(int number, int what) {
            int told = issuedRows[issuedStart(number) + what];
            return what >= ISSUED && told > cycle ? NONE : told;
        }
    }
}
