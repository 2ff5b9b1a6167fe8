/** The boundaries that the document's first lines and Terms 1 name, one test for each sentence. */
public final class Terms1EdgesTest {
    private static final int[] KIND = {
        Looks.NONE, 0, 0, 0, 0, 0, 0, 0, 1, 1, 1, 2, 3, 3, 4, 4, 5, 5, 5};
    /** One code of each kind. */
    private static final int[] CODE = {6, 8, 11, 12, 14, 18};
    private static final int[] FIRST_LATENCY = {2, 1, 6, 12, 3, 1};
    private static final int[] WITH_B = {1, 2, 3, 4, 5, 8, 9, 10, 11, 12, 13};

    public static void main(String[] args) {
        Looks.tests(
                Terms1EdgesTest::callsUpTo512,
                Terms1EdgesTest::registersAreZeroAtFirst,
                Terms1EdgesTest::registersAreLongs,
                Terms1EdgesTest::memoryIsZeroAtFirst,
                Terms1EdgesTest::memoryIsLongs,
                Terms1EdgesTest::everyPlaceHaltsAtFirst,
                Terms1EdgesTest::behind255ComesPlace0,
                Terms1EdgesTest::behind255ComesPlace0ForEachCode,
                Terms1EdgesTest::behind254ComesPlace255,
                Terms1EdgesTest::registerBGoesRound,
                Terms1EdgesTest::registerBGoesRoundForReading,
                Terms1EdgesTest::nIsBItself,
                Terms1EdgesTest::kindOfEachCode,
                Terms1EdgesTest::sumsGoRound,
                Terms1EdgesTest::productsGoRound,
                Terms1EdgesTest::bitsOfLongs,
                Terms1EdgesTest::shiftsBySixBits,
                Terms1EdgesTest::divisionsByZero,
                Terms1EdgesTest::divisionsGoRound,
                Terms1EdgesTest::loadByEightBits,
                Terms1EdgesTest::storeByEightBits,
                Terms1EdgesTest::goIfZero,
                Terms1EdgesTest::goIfBelowZero,
                Terms1EdgesTest::goAlways,
                Terms1EdgesTest::goByEightBits,
                Terms1EdgesTest::haltHasNoUnit,
                Terms1EdgesTest::readsByLetters,
                Terms1EdgesTest::writesByLetters,
                Terms1EdgesTest::unitsAtFirst,
                Terms1EdgesTest::unitsAtMost,
                Terms1EdgesTest::latenciesAtFirst,
                Terms1EdgesTest::latenciesAtBothEnds,
                Terms1EdgesTest::widthAtFirst,
                Terms1EdgesTest::widthAtBothEnds);
        Looks.end();
    }

    private static void callsUpTo512() {
        Looks.sentence("An object is used for at most 512 calls after it has been made");
        ScoreMachine x = new ScoreMachine();
        ScoreMachine y = new ScoreMachine();
        x.put(0, 18, 0, 0, 0);
        y.put(0, 18, 0, 0, 0);
        for (int call = 2; call <= 511; call++) {
            Looks.due("run(3000)", x.run(3000), 3000);
            y.run(3000);
        }
        Looks.due("the 512th call, count(0)", x.count(0), 510 * 3000);
        Looks.due("the 512th call, latest(63, 5)", y.latest(63, 5), 510 * 3000 - 63 * 4);
    }

    private static void registersAreZeroAtFirst() {
        Looks.sentence("REGISTERS 0 .. 15 .. all 0 at first");
        ScoreMachine x = new ScoreMachine();
        for (int i = 0; i < 16; i++) {
            Looks.due("register(" + i + ")", x.register(i), 0);
            Looks.due("plain(0, " + i + ")", x.plain(0, i), 0);
        }
        Looks.dueThrow("register(16)", () -> x.register(16));
        Looks.dueThrow("register(-1)", () -> x.register(-1));
    }

    private static void registersAreLongs() {
        Looks.sentence("REGISTERS 0 .. 15 (longs)");
        long[] values = {Long.MIN_VALUE, Long.MAX_VALUE, 1L << 32, -1};
        for (int i = 0; i < 16; i++) {
            for (long v : values) {
                ScoreMachine x = new ScoreMachine();
                x.set(0, i, v);
                x.put(0, 7, i, i, 0);
                x.run(100);
                Looks.due("register(" + i + ")", x.register(i), v);
                Looks.due("plain(0, " + i + ")", x.plain(0, i), v);
            }
        }
    }

    private static void memoryIsZeroAtFirst() {
        Looks.sentence("MEMORY 0 .. 255 .. all 0 at first");
        ScoreMachine x = new ScoreMachine();
        ScoreMachine y = new ScoreMachine();
        for (int i = 0; i < 256; i++) {
            Looks.due("memory(" + i + ")", x.memory(i), 0);
            Looks.due("plain(1, " + i + ")", y.plain(1, i), 0);
        }
        Looks.dueThrow("memory(256)", () -> x.memory(256));
        Looks.dueThrow("memory(-1)", () -> x.memory(-1));
    }

    private static void memoryIsLongs() {
        Looks.sentence("MEMORY 0 .. 255 (longs)");
        int[] cells = {0, 1, 127, 128, 254, 255};
        long[] values = {Long.MIN_VALUE, Long.MAX_VALUE, 1L << 32, -1};
        for (int cell : cells) {
            for (long v : values) {
                ScoreMachine x = new ScoreMachine();
                x.set(1, cell, v);
                x.put(0, 14, 3, 0, cell);
                x.put(1, 15, 3, 0, cell ^ 1);
                x.run(100);
                Looks.due("register(3)", x.register(3), v);
                Looks.due("memory(" + cell + ")", x.memory(cell), v);
                Looks.due("memory beside", x.memory(cell ^ 1), v);
                Looks.due("plain(1, " + cell + ")", x.plain(1, cell), v);
            }
        }
    }

    private static void everyPlaceHaltsAtFirst() {
        Looks.sentence("A PROGRAM: PLACES 0 .. 255, each with an INSTRUCTION .. all 0 at first");
        for (int place = 1; place < 256; place++) {
            ScoreMachine x = new ScoreMachine();
            x.put(0, 18, 0, 0, place);
            Looks.due("run(3000) to HALT at " + place, x.run(3000), 5);
            Looks.due("count(1)", x.count(1), 1);
            Looks.due("count(7)", x.count(7), place);
        }
        ScoreMachine y = new ScoreMachine();
        Looks.due("run(3000) at HALT at 0", y.run(3000), 1);
        Looks.due("count(7)", y.count(7), 0);
    }

    private static void behind255ComesPlace0() {
        Looks.sentence("Places go round (behind 255 comes 0)");
        ScoreMachine x = new ScoreMachine();
        x.put(0, 18, 0, 0, 255);
        x.put(255, 6, 3, 0, 9);
        x.run(4);
        Looks.due("count(7) ahead of 255", x.count(7), 255);
        x.run(1);
        Looks.due("count(7) behind 255", x.count(7), 0);
        x.run(1);
        Looks.due("place of the one behind 255", x.latest(0, Looks.PLACE), 0);
        Looks.due("its number", x.latest(0, Looks.NUMBER), 2);
    }

    private static void behind255ComesPlace0ForEachCode() {
        Looks.sentence("Else, and of all others, the next PLACE (behind 255 comes 0)");
        for (int code = 1; code <= 17; code++) {
            ScoreMachine x = new ScoreMachine();
            x.set(0, 1, 1);
            x.put(0, 18, 0, 0, 255);
            x.put(255, code, 2, 1, 77);
            x.run(4);
            Looks.due("count(7) ahead of code " + code, x.count(7), 255);
            x.run(1);
            Looks.due("count(7) right behind code " + code, x.count(7), code > 15 ? -1 : 0);
            x.run(3);
            Looks.due("count(2) behind code " + code, x.count(2), code > 15 ? 2 : 3);
            Looks.due("its PLACE", x.latest(0, Looks.PLACE), code > 15 ? 255 : 0);
            Looks.due("count(7) later", x.count(7), code > 15 ? 0 : -1);
        }
    }

    private static void behind254ComesPlace255() {
        Looks.sentence("PLACES 0 .. 255 (the last one is not left out)");
        ScoreMachine x = new ScoreMachine();
        x.put(0, 16, 0, 1, 254);
        x.put(254, 6, 1, 0, 1);
        x.put(255, 6, 2, 0, 2);
        x.put(1, 0, 0, 0, 0);
        x.units(0, 2);
        x.run(5);
        Looks.due("count(7)", x.count(7), 255);
        x.run(3000);
        Looks.due("register(2)", x.register(2), 2);
        Looks.due("count(7) in the end", x.count(7), 1);
    }

    /** What a code makes of two values, told apart from the class. */
    private static long worth(int code, long a, long b) {
        int by = (int) Math.floorMod(b, 64L);
        return switch (code) {
            case 1 -> a + b;
            case 2 -> a - b;
            case 3 -> a & b;
            case 4 -> a | b;
            case 5 -> a ^ b;
            case 8 -> a << by;
            case 9 -> a >> by;
            case 10 -> a >>> by;
            case 11 -> a * b;
            case 12 -> a / b;
            default -> a % b;
        };
    }

    private static void registerBGoesRound() {
        Looks.sentence("d, a, b are the REGISTERS D, A, B % 16 (from 0 on)");
        int[][] rounds = {{0, 0}, {15, 15}, {16, 0}, {17, 1}, {-1, 15}, {-15, 1}, {-16, 0},
            {-17, 15}, {256, 0}, {Looks.MAX, 15}, {Looks.MIN, 0}, {Looks.MIN + 1, 1}};
        for (int code : WITH_B) {
            for (int[] r : rounds) {
                ScoreMachine x = new ScoreMachine();
                for (int i = 0; i < 16; i++) {
                    x.set(0, i, 1000003L * (i + 1) + i);
                }
                x.put(0, code, 4, 7, r[0]);
                x.run(100);
                long want = worth(code, 1000003L * 8 + 7, 1000003L * (r[1] + 1) + r[1]);
                Looks.due("code " + code + " with B " + r[0], x.register(4), want);
            }
        }
    }

    private static void registerBGoesRoundForReading() {
        Looks.sentence("An INSTRUCTION READS the registers a, b .. (B % 16, from 0 on)");
        int[][] rounds = {{16, 0}, {-1, 15}, {Looks.MAX, 15}, {Looks.MIN, 0}, {-16, 0}};
        for (int code : WITH_B) {
            for (int[] r : rounds) {
                ScoreMachine x = new ScoreMachine();
                x.units(3, 2);
                x.put(0, 12, r[1], 3, 3);
                x.put(1, code, 4, 3, r[0]);
                x.run(3000);
                Looks.due("READ of code " + code + " with B " + r[0], Looks.told(x, 1, 3), 16);
            }
        }
    }

    private static void nIsBItself() {
        Looks.sentence("n is B itself: 6 d = n, 7 d = a + n");
        int[] all = {Looks.MIN, Looks.MAX, -1, 0, 1, 15, 16, 255, 256, 1 << 30};
        for (int n : all) {
            ScoreMachine x = new ScoreMachine();
            x.set(0, 3, 5);
            x.put(0, 6, 1, 3, n);
            x.put(1, 7, 2, 3, n);
            x.run(100);
            Looks.due("6 with " + n, x.register(1), n);
            Looks.due("7 with " + n, x.register(2), 5L + n);
        }
    }

    private static void kindOfEachCode() {
        Looks.sentence("CODES, by KINDS of units");
        for (int code = 1; code <= 18; code++) {
            ScoreMachine x = new ScoreMachine();
            x.put(0, code, 1, 2, 3);
            x.run(1);
            for (int kind = 0; kind < 6; kind++) {
                Looks.due("code " + code + ", unit(" + kind + ", 0, 0)", x.unit(kind, 0, 0),
                        kind == KIND[code] ? 0 : Looks.NONE);
            }
        }
    }

    private static void dueValue(int code, long a, long b, long want) {
        ScoreMachine x = new ScoreMachine();
        x.set(0, 1, a);
        x.set(0, 2, b);
        x.put(0, code, 3, 1, 2);
        x.run(100);
        String what = "code " + code + " of " + a + ", " + b;
        Looks.due(what, x.register(3), want);
        Looks.due(what + " in the plain machine", x.plain(0, 3), want);
    }

    private static void sumsGoRound() {
        Looks.sentence("All go round as longs (1 a + b, 2 a - b, 7 a + n)");
        dueValue(1, Long.MAX_VALUE, 1, Long.MIN_VALUE);
        dueValue(1, Long.MIN_VALUE, Long.MIN_VALUE, 0);
        dueValue(1, Long.MIN_VALUE, -1, Long.MAX_VALUE);
        dueValue(1, Integer.MAX_VALUE, 1, 1L << 31);
        dueValue(2, Long.MIN_VALUE, 1, Long.MAX_VALUE);
        dueValue(2, 0, Long.MIN_VALUE, Long.MIN_VALUE);
        dueValue(2, Integer.MIN_VALUE, 1, -(1L << 31) - 1);
        dueValue(7, Long.MAX_VALUE, 0, Long.MIN_VALUE + 1);
        ScoreMachine x = new ScoreMachine();
        x.set(0, 1, Long.MIN_VALUE);
        x.put(0, 7, 2, 1, Looks.MIN);
        x.run(100);
        Looks.due("7 goes round below", x.register(2), Long.MAX_VALUE - (1L << 31) + 1);
    }

    private static void productsGoRound() {
        Looks.sentence("All go round as longs (11 a * b)");
        dueValue(11, Long.MIN_VALUE, -1, Long.MIN_VALUE);
        dueValue(11, Long.MAX_VALUE, 2, -2);
        dueValue(11, 1L << 32, 1L << 32, 0);
        dueValue(11, 1L << 31, 2, 1L << 32);
        dueValue(11, 3, 0, 0);
    }

    private static void bitsOfLongs() {
        Looks.sentence("3 d = a & b, 4 d = a | b, 5 d = a ^ b (of longs)");
        dueValue(3, -1, 0xF000000000000001L, 0xF000000000000001L);
        dueValue(3, 12, 10, 8);
        dueValue(4, Long.MIN_VALUE, 1, Long.MIN_VALUE + 1);
        dueValue(4, 12, 10, 14);
        dueValue(5, -1, Long.MAX_VALUE, Long.MIN_VALUE);
        dueValue(5, 12, 10, 6);
    }

    private static void shiftsBySixBits() {
        Looks.sentence("8 d = a << b, 9 d = a >> b, 10 d = a >>> b (by b's lowest six bits)");
        long[] by = {0, 1, 31, 32, 63, 64, 65, 127, 128, -1, -63, -64, -65, 1L << 32,
            Long.MIN_VALUE, Long.MAX_VALUE};
        int[] six = {0, 1, 31, 32, 63, 0, 1, 63, 0, 63, 1, 0, 63, 0, 0, 63};
        long[] values = {1, -1, Long.MIN_VALUE, Long.MAX_VALUE, 0x123456789ABCDEFL};
        for (int i = 0; i < by.length; i++) {
            for (long a : values) {
                dueValue(8, a, by[i], a << six[i]);
                dueValue(9, a, by[i], a >> six[i]);
                dueValue(10, a, by[i], a >>> six[i]);
            }
        }
    }

    private static void divisionsByZero() {
        Looks.sentence("12 d = a / b, 13 d = a % b (by 0: d = 0)");
        long[] values = {0, 1, -1, 7, Long.MIN_VALUE, Long.MAX_VALUE};
        for (long a : values) {
            for (int code = 12; code <= 13; code++) {
                ScoreMachine x = new ScoreMachine();
                x.set(0, 1, a);
                x.set(0, 3, 99);
                x.put(0, code, 3, 1, 2);
                Looks.due("run(3000)", x.run(3000), 16);
                Looks.due("code " + code + " of " + a + " by 0", x.register(3), 0);
                Looks.due("in the plain machine", x.plain(0, 3), 0);
            }
        }
    }

    private static void divisionsGoRound() {
        Looks.sentence("All go round as longs (12 a / b, 13 a % b)");
        dueValue(12, Long.MIN_VALUE, -1, Long.MIN_VALUE);
        dueValue(13, Long.MIN_VALUE, -1, 0);
        dueValue(12, Long.MIN_VALUE, 1, Long.MIN_VALUE);
        dueValue(12, -7, 2, -3);
        dueValue(13, -7, 2, -1);
        dueValue(12, 7, -2, -3);
        dueValue(13, 7, -2, 1);
        dueValue(12, 1L << 40, 1L << 32, 256);
        dueValue(13, (1L << 40) + 3, 1L << 32, 3);
    }

    /** What a is, what n is, and the memory that they tell. */
    private static final long[][] CELLS = {
        {0, 0, 0}, {0, 255, 255}, {0, 256, 0}, {0, 257, 1}, {0, -1, 255}, {0, -256, 0},
        {0, -257, 255}, {0, Looks.MAX, 255}, {0, Looks.MIN, 0}, {-1, 0, 255}, {255, 1, 0},
        {256, 0, 0}, {1L << 32, 5, 5}, {Long.MAX_VALUE, 0, 255}, {Long.MAX_VALUE, 1, 0},
        {Long.MIN_VALUE, 0, 0}, {Long.MIN_VALUE, -1, 255}, {Looks.MAX, Looks.MAX, 254}};

    private static void loadByEightBits() {
        Looks.sentence("14 d = MEMORY of (a + n) (of a long the lowest eight bits tell which)");
        for (long[] c : CELLS) {
            ScoreMachine x = new ScoreMachine();
            x.set(0, 1, c[0]);
            x.set(1, (int) c[2], 77);
            x.put(0, 14, 3, 1, (int) c[1]);
            x.run(100);
            Looks.due("load of " + c[0] + " + " + c[1], x.register(3), 77);
            Looks.due("in the plain machine", x.plain(0, 3), 77);
        }
    }

    private static void storeByEightBits() {
        Looks.sentence("15 MEMORY of (a + n) = d (of a long the lowest eight bits tell which)");
        for (long[] c : CELLS) {
            ScoreMachine x = new ScoreMachine();
            x.set(0, 1, c[0]);
            x.set(0, 3, 77);
            x.put(0, 15, 3, 1, (int) c[1]);
            x.run(100);
            for (int i = 0; i < 256; i++) {
                long want = i == c[2] ? 77 : 0;
                Looks.due("memory(" + i + ") of " + c[0] + " + " + c[1], x.memory(i), want);
            }
            Looks.due("in the plain machine", x.plain(1, (int) c[2]), 77);
        }
    }

    private static void dueNext(int code, long a, int n, int want) {
        ScoreMachine x = new ScoreMachine();
        x.set(0, 4, a);
        x.put(0, code, 0, 4, n);
        x.run(100);
        Looks.due("the place behind code " + code + ", a " + a + ", n " + n, x.count(7), want);
    }

    private static void goIfZero() {
        Looks.sentence("16 if a is 0 .. Else .. the next PLACE");
        dueNext(16, 0, 77, 77);
        long[] others = {1, -1, 1L << 32, Long.MIN_VALUE, Long.MAX_VALUE};
        for (long a : others) {
            dueNext(16, a, 77, 1);
        }
    }

    private static void goIfBelowZero() {
        Looks.sentence("17 if a is below 0 .. Else .. the next PLACE");
        dueNext(17, -1, 77, 77);
        dueNext(17, Long.MIN_VALUE, 77, 77);
        dueNext(17, -(1L << 32), 77, 77);
        dueNext(17, 0, 77, 1);
        dueNext(17, 1, 77, 1);
        dueNext(17, 1L << 31, 77, 1);
        dueNext(17, Long.MAX_VALUE, 77, 1);
    }

    private static void goAlways() {
        Looks.sentence("18 always: the next INSTRUCTION is that at PLACE n");
        long[] values = {0, 1, -1, Long.MIN_VALUE, Long.MAX_VALUE};
        for (long a : values) {
            dueNext(18, a, 77, 77);
        }
    }

    private static void goByEightBits() {
        Looks.sentence("the next INSTRUCTION is that at PLACE n (its lowest eight bits)");
        int[][] places = {{1, 1}, {255, 255}, {257, 1}, {511, 255}, {-1, 255}, {-255, 1},
            {Looks.MAX, 255}, {Looks.MIN + 1, 1}, {-2, 254}};
        for (int[] p : places) {
            dueNext(18, 0, p[0], p[1]);
            dueNext(16, 0, p[0], p[1]);
            dueNext(17, -1, p[0], p[1]);
        }
        int[] toZero = {0, 256, -256, Looks.MIN};
        for (int n : toZero) {
            ScoreMachine x = new ScoreMachine();
            x.put(0, 18, 0, 0, n);
            x.run(4);
            Looks.due("the place behind 18 with n " + n, x.count(7), 0);
        }
    }

    private static void haltHasNoUnit() {
        Looks.sentence("0 HALT. (No unit.)");
        ScoreMachine x = new ScoreMachine();
        x.put(0, 14, 1, 0, 0);
        x.put(1, 0, 15, 15, Looks.MAX);
        x.run(2);
        for (int kind = 0; kind < 6; kind++) {
            Looks.due("unit(" + kind + ", 0, 1)", x.unit(kind, 0, 1), kind == 4 ? 0 : Looks.NONE);
        }
        Looks.due("pending(15)", x.pending(15), Looks.NONE);
        Looks.due("run(3000)", x.run(3000), 5);
        Looks.due("count(2)", x.count(2), 1);
        Looks.due("count(8)", x.count(8), 1);
        Looks.due("latest(1, 1)", x.latest(1, 1), Looks.NONE);
    }

    /** Which of d, a, b a code reads, as the document's letters tell. */
    private static String lettersRead(int code) {
        if (code == 15) {
            return "da";
        }
        if (code == 6 || code == 18) {
            return "";
        }
        return code == 7 || code >= 14 ? "a" : "ab";
    }

    private static void readsByLetters() {
        Looks.sentence("An INSTRUCTION READS the registers a, b (of 15 d, too) that it tells");
        for (int code = 1; code <= 18; code++) {
            for (int letter = 0; letter < 3; letter++) {
                if (letter == 0 && code <= 14) {
                    continue;
                }
                ScoreMachine x = new ScoreMachine();
                x.units(3, 2);
                x.set(0, 2, 1);
                x.put(0, 12, 1 + letter, 9, 9);
                x.put(1, code, 1, 2, 3);
                x.run(60);
                boolean reads = lettersRead(code).indexOf("dab".charAt(letter)) >= 0;
                Looks.due("READ of code " + code + " behind one that writes "
                        + "dab".charAt(letter), Looks.told(x, 1, 3), reads ? 16 : 3);
            }
        }
    }

    private static void writesByLetters() {
        Looks.sentence("and WRITES d, if it tells d =");
        for (int code = 1; code <= 18; code++) {
            ScoreMachine x = new ScoreMachine();
            x.put(0, code, 1, 2, 3);
            x.run(1);
            Looks.due("pending(1) of code " + code, x.pending(1), code <= 14 ? 0 : Looks.NONE);
            Looks.due("pending(2)", x.pending(2), Looks.NONE);
            Looks.due("pending(3)", x.pending(3), Looks.NONE);
            Looks.due("pending(0)", x.pending(0), Looks.NONE);
        }
    }

    /** Four of one kind that do not hinder one another, in one cycle. */
    private static ScoreMachine fourOf(int kind) {
        ScoreMachine x = new ScoreMachine();
        for (int place = 0; place < 4; place++) {
            x.put(place, CODE[kind], 1 + place, 9, kind == 5 ? place + 1 : 9);
        }
        x.width(4);
        return x;
    }

    private static void unitsAtFirst() {
        Looks.sentence("UNITS .. of 4 and 5 one .. At first one each");
        for (int kind = 0; kind < 6; kind++) {
            ScoreMachine x = fourOf(kind);
            x.run(1);
            Looks.due("count(2) of kind " + kind, x.count(2), 1);
            Looks.due("unit(" + kind + ", 0, 1)", x.unit(kind, 0, 1), 0);
            Looks.due("unit(" + kind + ", 1, 1)", x.unit(kind, 1, 1), Looks.NONE);
        }
    }

    private static void unitsAtMost() {
        Looks.sentence("UNITS: of KINDS 0 .. 3 as many as are set, 1 .. 3");
        for (int kind = 0; kind < 4; kind++) {
            for (int many = 1; many <= 3; many++) {
                ScoreMachine x = fourOf(kind);
                x.units(kind, many);
                x.run(1);
                Looks.due("count(2) of kind " + kind, x.count(2), many);
                Looks.due("count(5) of kind " + kind, x.count(5), 1);
                Looks.due("its last unit", x.unit(kind, many - 1, 1), many - 1);
                Looks.due("no unit behind it", x.unit(kind, many, 1), Looks.NONE);
            }
        }
    }

    private static void latenciesAtFirst() {
        Looks.sentence("At first .. LATENCIES 2, 1, 6, 12, 3, 1");
        for (int kind = 0; kind < 6; kind++) {
            ScoreMachine x = new ScoreMachine();
            x.put(0, CODE[kind], 1, 2, 3);
            x.run(100);
            int latency = FIRST_LATENCY[kind];
            Looks.dueCycles(x, 0, 1, 2, 2 + latency, 3 + latency);
        }
    }

    private static void latenciesAtBothEnds() {
        Looks.sentence("LATENCY of each KIND 1 .. 30");
        for (int kind = 0; kind < 6; kind++) {
            for (int latency = 1; latency <= 30; latency++) {
                ScoreMachine x = new ScoreMachine();
                x.put(0, CODE[kind], 1, 2, 3);
                Looks.due("latency", x.latency(kind, latency), true);
                x.run(100);
                Looks.dueCycles(x, 0, 1, 2, 2 + latency, 3 + latency);
            }
        }
    }

    private static ScoreMachine sixAlone() {
        ScoreMachine x = new ScoreMachine();
        x.units(0, 3);
        x.units(1, 3);
        for (int place = 0; place < 6; place++) {
            x.put(place, place < 3 ? 6 : 8, place, 15, 15);
        }
        return x;
    }

    private static void widthAtFirst() {
        Looks.sentence("At first .. WIDTH 1");
        ScoreMachine x = sixAlone();
        for (int cycle = 1; cycle <= 3; cycle++) {
            x.run(1);
            Looks.due("count(2) in cycle " + cycle, x.count(2), cycle);
        }
    }

    private static void widthAtBothEnds() {
        Looks.sentence("WIDTH 1 .. 4");
        for (int n = 1; n <= 4; n++) {
            ScoreMachine x = sixAlone();
            x.width(n);
            x.run(1);
            Looks.due("count(2) with WIDTH " + n, x.count(2), n);
            x.run(1);
            Looks.due("count(2) with WIDTH " + n + " in cycle 2", x.count(2), Math.min(6, 2 * n));
        }
    }
}
