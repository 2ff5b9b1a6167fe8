/** The boundaries that Terms 2 names (the run by cycles), one test for each sentence. */
public final class Terms2EdgesTest {
    /** One code of each kind. */
    private static final int[] CODE = {6, 8, 11, 12, 14, 18};

    public static void main(String[] args) {
        Looks.tests(
                Terms2EdgesTest::firstCycleIsOne,
                Terms2EdgesTest::numbersFromZeroOn,
                Terms2EdgesTest::orderOfThePlainMachine,
                Terms2EdgesTest::issuedNotAheadOfTheOneBefore,
                Terms2EdgesTest::issuedFewerThanWidth,
                Terms2EdgesTest::issuedBehindBranch,
                Terms2EdgesTest::issuedBehindBranchNotTaken,
                Terms2EdgesTest::issuedBehindUnit,
                Terms2EdgesTest::issuedBehindLastOfThreeUnits,
                Terms2EdgesTest::issuedBehindSame,
                Terms2EdgesTest::issuedBehindSameOfAnother,
                Terms2EdgesTest::sameIsNotForThoseThatWriteNone,
                Terms2EdgesTest::hindrancesInOrder,
                Terms2EdgesTest::lowestUnitThatIsFree,
                Terms2EdgesTest::readRightBehindIssued,
                Terms2EdgesTest::readBehindWritten,
                Terms2EdgesTest::readBehindTheLaterOfTwo,
                Terms2EdgesTest::readDoesNotWaitForItself,
                Terms2EdgesTest::readDoesNotWaitForOneBehind,
                Terms2EdgesTest::doneByLatency,
                Terms2EdgesTest::writtenRightBehindDone,
                Terms2EdgesTest::writtenBehindReader,
                Terms2EdgesTest::writtenBehindReaderByEachLetter,
                Terms2EdgesTest::writtenBehindTheLaterOfTwoReaders,
                Terms2EdgesTest::writtenDoesNotWaitForItself,
                Terms2EdgesTest::writtenDoesNotWaitForOneBehind,
                Terms2EdgesTest::thoseThatWriteNoneDoNotWait,
                Terms2EdgesTest::registerHasItsValueWithWritten,
                Terms2EdgesTest::memoryHasItsValueWithWritten,
                Terms2EdgesTest::readerHasWhatWasAhead,
                Terms2EdgesTest::haltAlone,
                Terms2EdgesTest::haltBehindTheLastWritten,
                Terms2EdgesTest::haltAtFullWidth,
                Terms2EdgesTest::haltBehindBranch,
                Terms2EdgesTest::cyclesDoNotGoOn,
                Terms2EdgesTest::stallsAheadOfFirstCycle,
                Terms2EdgesTest::stallsNotForHalt,
                Terms2EdgesTest::stallsNotAtFullWidth,
                Terms2EdgesTest::stallsOnceEachCycle,
                Terms2EdgesTest::stallsByFirstHindrance,
                Terms2EdgesTest::plainBeginsAlike,
                Terms2EdgesTest::plainAsManyAsIssued,
                Terms2EdgesTest::plainInTheEnd);
        Looks.end();
    }

    private static void firstCycleIsOne() {
        Looks.sentence("THE RUN goes by CYCLES 1, 2, ..");
        ScoreMachine x = new ScoreMachine();
        x.put(0, 8, 1, 2, 3);
        Looks.due("count(0) at first", x.count(0), 0);
        for (int cycle = 1; cycle <= 5; cycle++) {
            x.run(1);
            Looks.due("count(0)", x.count(0), cycle);
        }
        Looks.due("ISSUED of the first", x.latest(0, Looks.ISSUED), 1);
    }

    private static void numbersFromZeroOn() {
        Looks.sentence("INSTRUCTIONS are taken in the order .. number 0, 1, ...");
        ScoreMachine x = new ScoreMachine();
        for (int place = 0; place < 5; place++) {
            x.put(place, CODE[place], place, 9, 9);
        }
        for (int number = 0; number < 5; number++) {
            x.run(1);
            Looks.due("number", x.latest(0, Looks.NUMBER), number);
            Looks.due("the first's number", x.latest(number, Looks.NUMBER), 0);
        }
    }

    private static void orderOfThePlainMachine() {
        Looks.sentence("taken in the order in which the plain machine (below) would do them");
        ScoreMachine x = new ScoreMachine();
        x.put(0, 12, 1, 9, 9);
        x.put(1, 16, 0, 1, 200);
        x.put(200, 7, 1, 1, -1);
        x.put(201, 17, 0, 1, 3);
        x.put(3, 8, 4, 4, 4);
        x.run(3000);
        int[] places = {0, 1, 200, 201, 3};
        Looks.due("count(2)", x.count(2), places.length);
        for (int number = 0; number < places.length; number++) {
            Looks.due("place of number " + number, Looks.told(x, number, Looks.PLACE),
                    places[number]);
        }
    }

    private static void issuedNotAheadOfTheOneBefore() {
        Looks.sentence("ISSUED: the first cycle, not ahead of that of the one before it");
        ScoreMachine x = new ScoreMachine();
        x.width(4);
        x.put(0, 12, 1, 9, 9);
        x.put(1, 12, 2, 9, 9);
        x.put(2, 8, 3, 9, 9);
        x.run(15);
        Looks.due("the third waits for the second, count(2)", x.count(2), 1);
        x.run(1);
        Looks.due("both in one cycle, count(2)", x.count(2), 3);
        Looks.dueCycles(x, 1, 16);
        Looks.dueCycles(x, 2, 16);
    }

    private static void issuedFewerThanWidth() {
        Looks.sentence("in which fewer than WIDTH were issued ahead of it");
        for (int width = 1; width <= 4; width++) {
            ScoreMachine x = new ScoreMachine();
            x.width(width);
            x.units(0, 3);
            for (int place = 0; place < 5; place++) {
                x.put(place, place < 3 ? 6 : CODE[place - 2], place, 9, 9);
            }
            x.run(3000);
            for (int number = 0; number < 5; number++) {
                Looks.dueCycles(x, number, 1 + number / width);
            }
        }
    }

    private static void issuedBehindBranch() {
        Looks.sentence("1 BRANCH: one of KIND 5 ahead of it that is not WRITTEN in a cycle ahead");
        for (int code = 16; code <= 18; code++) {
            for (int latency = 1; latency <= 30; latency += 29) {
                ScoreMachine x = new ScoreMachine();
                x.width(4);
                x.latency(5, latency);
                x.set(0, 1, code == 17 ? -1 : 0);
                x.put(0, code, 0, 1, 50);
                x.put(50, 8, 2, 2, 2);
                x.run(3 + latency);
                Looks.due("WRITTEN of the branch", x.latest(0, Looks.WRITTEN), 3 + latency);
                Looks.due("count(2) in the cycle of WRITTEN", x.count(2), 1);
                x.run(1);
                Looks.due("count(2) a cycle later", x.count(2), 2);
            }
        }
    }

    private static void issuedBehindBranchNotTaken() {
        Looks.sentence("1 BRANCH (one that does not go hinders, too)");
        for (int code = 16; code <= 17; code++) {
            ScoreMachine x = new ScoreMachine();
            x.width(4);
            x.set(0, 1, 1);
            x.put(0, code, 0, 1, 50);
            x.put(1, 8, 2, 2, 2);
            x.run(100);
            Looks.dueCycles(x, 0, 1, 2, 3, 4);
            Looks.dueCycles(x, 1, 5);
        }
    }

    private static void issuedBehindUnit() {
        Looks.sentence("2 UNIT: all units of its KIND have INSTRUCTIONS that are not WRITTEN in a"
                + " cycle ahead");
        int[] latency = {2, 1, 6, 12, 3};
        for (int kind = 0; kind < 5; kind++) {
            ScoreMachine x = new ScoreMachine();
            x.width(2);
            x.put(0, CODE[kind], 1, 9, 9);
            x.put(1, CODE[kind], 2, 9, 9);
            x.run(3 + latency[kind]);
            Looks.due("WRITTEN of the first", x.latest(0, Looks.WRITTEN), 3 + latency[kind]);
            Looks.due("count(2) in the cycle of WRITTEN", x.count(2), 1);
            x.run(1);
            Looks.due("count(2) a cycle later", x.count(2), 2);
            Looks.due("unit(" + kind + ", 0, 1)", x.unit(kind, 0, 1), 1);
        }
    }

    private static void issuedBehindLastOfThreeUnits() {
        Looks.sentence("2 UNIT: all units of its KIND (of three)");
        for (int kind = 0; kind < 4; kind++) {
            ScoreMachine x = new ScoreMachine();
            x.units(kind, 3);
            x.latency(kind, 5);
            for (int place = 0; place < 6; place++) {
                x.put(place, CODE[kind], 1 + place, 9, 9);
            }
            x.run(3000);
            int[] issued = {1, 2, 3, 9, 10, 11};
            for (int number = 0; number < 6; number++) {
                Looks.dueCycles(x, number, issued[number], issued[number] + 1,
                        issued[number] + 6, issued[number] + 7);
            }
        }
    }

    private static void issuedBehindSame() {
        Looks.sentence("3 SAME: one ahead of it that WRITES the register that it WRITES, and is not"
                + " WRITTEN in a cycle ahead");
        for (int register = 0; register < 16; register++) {
            ScoreMachine x = new ScoreMachine();
            x.width(2);
            x.put(0, 11, register, 9, 9);
            x.put(1, 6, register, 9, 5);
            x.run(9);
            Looks.due("WRITTEN of the first", x.latest(0, Looks.WRITTEN), 9);
            Looks.due("count(2) in the cycle of WRITTEN", x.count(2), 1);
            Looks.due("count(6)", x.count(6), 9);
            x.run(1);
            Looks.due("count(2) a cycle later", x.count(2), 2);
        }
    }

    private static void issuedBehindSameOfAnother() {
        Looks.sentence("3 SAME (another register does not hinder)");
        for (int register = 1; register < 16; register++) {
            ScoreMachine x = new ScoreMachine();
            x.width(2);
            x.put(0, 11, register, 9, 9);
            x.put(1, 6, register - 1, register, 5);
            x.run(1);
            Looks.due("count(2)", x.count(2), 2);
        }
    }

    private static void sameIsNotForThoseThatWriteNone() {
        Looks.sentence("3 SAME: .. that WRITES the register that it WRITES (15 to 18 WRITE none)");
        for (int code = 15; code <= 18; code++) {
            ScoreMachine x = new ScoreMachine();
            x.set(0, 2, 1);
            x.put(0, 11, 1, 9, 9);
            x.put(1, code, 1, 2, 2);
            x.run(100);
            Looks.dueCycles(x, 1, 2);
            ScoreMachine y = new ScoreMachine();
            y.set(0, 2, 1);
            y.latency(5, 1);
            y.put(0, code, 1, 2, 1);
            y.put(1, 6, 1, 9, 9);
            y.run(100);
            Looks.dueCycles(y, 1, code == 15 ? 2 : 5);
            Looks.due("count(6)", x.count(6) + y.count(6), 0);
        }
    }

    private static void hindrancesInOrder() {
        Looks.sentence("none of these hinders (looked at in this order)");
        ScoreMachine x = new ScoreMachine();
        x.put(0, 11, 1, 9, 9);
        x.put(1, 18, 0, 0, 2);
        x.put(2, 11, 1, 9, 9);
        x.run(5);
        Looks.due("BRANCH ahead of UNIT and SAME, count(4)", x.count(4), 3);
        Looks.due("count(5)", x.count(5), 0);
        Looks.due("count(6)", x.count(6), 0);
        x.run(4);
        Looks.due("UNIT ahead of SAME, count(5)", x.count(5), 4);
        Looks.due("count(6)", x.count(6), 0);
        x.again();
        x.units(2, 2);
        x.run(9);
        Looks.due("BRANCH first, count(4)", x.count(4), 3);
        Looks.due("no UNIT, count(5)", x.count(5), 0);
        Looks.due("SAME, count(6)", x.count(6), 4);
        x.run(1);
        Looks.due("count(2)", x.count(2), 3);
    }

    private static void lowestUnitThatIsFree() {
        Looks.sentence("It has the lowest unit of its KIND that is free");
        ScoreMachine x = new ScoreMachine();
        x.units(0, 3);
        x.put(0, 12, 1, 9, 9);
        x.put(1, 7, 2, 1, 0);
        x.put(2, 6, 3, 0, 0);
        x.put(3, 6, 4, 0, 0);
        x.put(4, 6, 5, 0, 0);
        x.put(5, 6, 6, 0, 0);
        x.put(6, 12, 7, 9, 9);
        x.put(7, 12, 8, 9, 9);
        x.put(8, 6, 10, 0, 0);
        x.run(8);
        Looks.due("the first that is free, unit(0, 1, 1)", x.unit(0, 1, 1), 4);
        Looks.due("written, unit(0, 2, 1)", x.unit(0, 2, 1), Looks.NONE);
        x.run(1);
        Looks.due("unit(0, 0, 1)", x.unit(0, 0, 1), 1);
        Looks.due("unit(0, 1, 1)", x.unit(0, 1, 1), 4);
        Looks.due("unit(0, 2, 1)", x.unit(0, 2, 1), 5);
        x.run(23);
        Looks.due("of three that are free, unit(0, 0, 1)", x.unit(0, 0, 1), 8);
        Looks.due("unit(0, 1, 1)", x.unit(0, 1, 1), Looks.NONE);
    }

    private static void readRightBehindIssued() {
        Looks.sentence("READ: the first cycle behind ISSUED");
        for (int code = 1; code <= 18; code++) {
            ScoreMachine x = new ScoreMachine();
            x.put(0, code, 1, 2, 3);
            x.run(1);
            Looks.due("READ in the cycle of ISSUED", x.latest(0, Looks.READ), Looks.NONE);
            x.run(1);
            Looks.due("READ", x.latest(0, Looks.READ), 2);
        }
    }

    /** A writer that is WRITTEN in cycle 5; its reader is ISSUED ahead of, with, behind that. */
    private static void readBehindWritten() {
        Looks.sentence("in which each one ahead of it that WRITES a register which it READS is"
                + " WRITTEN in a cycle ahead");
        int[] between = {11, 12, 14, 18};
        for (int many = 0; many <= 4; many++) {
            ScoreMachine x = new ScoreMachine();
            x.put(0, 6, 1, 0, 3);
            for (int i = 0; i < many; i++) {
                x.put(1 + i, between[i], 5 + i, 9, i == 3 ? 5 : 9);
            }
            x.put(1 + many, 8, 2, 1, 1);
            x.run(3000);
            int issued = many == 4 ? 9 : 2 + many;
            Looks.dueCycles(x, 0, 1, 2, 4, 5);
            Looks.dueCycles(x, 1 + many, issued, Math.max(issued, 5) + 1);
            Looks.due("register(2)", x.register(2), 24);
        }
    }

    private static void readBehindTheLaterOfTwo() {
        Looks.sentence("each one ahead of it that WRITES a register which it READS (the later one)");
        for (int turn = 0; turn < 2; turn++) {
            ScoreMachine x = new ScoreMachine();
            x.put(0, 12, 1, 9, 9);
            x.put(1, 11, 2, 9, 9);
            x.put(2, 1, 3, turn == 0 ? 1 : 2, turn == 0 ? 2 : 1);
            x.run(3000);
            Looks.due("WRITTEN of the division", Looks.told(x, 0, Looks.WRITTEN), 15);
            Looks.due("WRITTEN of the product", Looks.told(x, 1, Looks.WRITTEN), 10);
            Looks.due("READ", Looks.told(x, 2, Looks.READ), 16);
        }
    }

    private static void readDoesNotWaitForItself() {
        Looks.sentence("READ: .. each one ahead of it (not the one itself)");
        ScoreMachine x = new ScoreMachine();
        x.set(0, 1, 4);
        x.put(0, 1, 1, 1, 1);
        x.run(3000);
        Looks.dueCycles(x, 0, 1, 2, 4, 5);
        Looks.due("register(1)", x.register(1), 8);
    }

    private static void readDoesNotWaitForOneBehind() {
        Looks.sentence("READ: .. each one ahead of it (not one behind)");
        ScoreMachine x = new ScoreMachine();
        x.set(0, 3, 4);
        x.put(0, 11, 1, 9, 9);
        x.put(1, 1, 2, 1, 3);
        x.put(2, 12, 3, 9, 9);
        x.run(3000);
        Looks.dueCycles(x, 1, 2, 10, 12, 13);
        Looks.dueCycles(x, 2, 3, 4, 16, 17);
        Looks.due("register(2)", x.register(2), 4);
    }

    private static void doneByLatency() {
        Looks.sentence("DONE: READ and LATENCY of its KIND");
        for (int kind = 0; kind < 6; kind++) {
            for (int latency = 1; latency <= 30; latency += 29) {
                ScoreMachine x = new ScoreMachine();
                x.latency(kind, latency);
                x.put(0, CODE[kind], 1, 9, 9);
                x.run(1 + latency);
                Looks.due("DONE ahead of it", x.latest(0, Looks.DONE), Looks.NONE);
                x.run(1);
                Looks.due("DONE", x.latest(0, Looks.DONE), 2 + latency);
            }
        }
    }

    private static void writtenRightBehindDone() {
        Looks.sentence("WRITTEN: the first cycle behind DONE");
        int[] latency = {2, 1, 6, 12, 3, 1};
        for (int kind = 0; kind < 6; kind++) {
            ScoreMachine x = new ScoreMachine();
            x.put(0, CODE[kind], 1, 9, 9);
            x.run(2 + latency[kind]);
            Looks.due("DONE", x.latest(0, Looks.DONE), 2 + latency[kind]);
            Looks.due("WRITTEN in the cycle of DONE", x.latest(0, Looks.WRITTEN), Looks.NONE);
            x.run(1);
            Looks.due("WRITTEN", x.latest(0, Looks.WRITTEN), 3 + latency[kind]);
        }
    }

    /** The writer is DONE in cycle 6; its reader ahead READS in 5, 6, 7, 8. */
    private static void writtenBehindReader() {
        Looks.sentence("in which each one ahead of it that READS a register which this one WRITES is"
                + " READ in a cycle ahead");
        int[] written = {7, 7, 8, 9, 10};
        for (int latency = 1; latency <= 5; latency++) {
            ScoreMachine x = new ScoreMachine();
            x.latency(3, latency);
            x.units(0, 2);
            x.put(0, 12, 1, 9, 9);
            x.put(1, 1, 2, 1, 3);
            x.put(2, 6, 3, 0, 70);
            x.run(3000);
            Looks.due("READ of the reader", Looks.told(x, 1, Looks.READ), 4 + latency);
            Looks.dueCycles(x, 2, 3, 4, 6, written[latency - 1]);
            Looks.due("register(2)", x.register(2), 0);
            Looks.due("register(3)", x.register(3), 70);
        }
    }

    private static void writtenBehindReaderByEachLetter() {
        Looks.sentence("each one ahead of it that READS a register (as a, as b, as d of 15)");
        int[][] readers = {{1, 2, 3, 1}, {1, 2, 1, 3}, {15, 3, 1, 0}, {15, 1, 3, 0}, {12, 2, 3, 1},
            {8, 2, 3, 17}, {8, 2, 1, 19}, {1, 2, 1, -13}};
        for (int[] r : readers) {
            ScoreMachine x = new ScoreMachine();
            x.units(0, 2);
            x.units(3, 2);
            x.put(0, 12, 1, 9, 9);
            x.put(1, r[0], r[1], r[2], r[3]);
            x.put(2, 6, 3, 0, 70);
            x.run(3000);
            Looks.due("READ of the reader", Looks.told(x, 1, Looks.READ), 16);
            Looks.dueCycles(x, 2, 3, 4, 6, 17);
        }
    }

    /** The reader that comes later READS earlier. */
    private static void writtenBehindTheLaterOfTwoReaders() {
        Looks.sentence("each one ahead of it that READS a register which this one WRITES (of two)");
        ScoreMachine x = new ScoreMachine();
        x.units(0, 2);
        x.put(0, 12, 1, 9, 9);
        x.put(1, 1, 2, 1, 3);
        x.put(2, 8, 4, 3, 3);
        x.put(3, 6, 3, 0, 70);
        x.run(3000);
        Looks.due("READ of the first reader", Looks.told(x, 1, Looks.READ), 16);
        Looks.due("READ of the second reader", Looks.told(x, 2, Looks.READ), 4);
        Looks.dueCycles(x, 3, 4, 5, 7, 17);
    }

    private static void writtenDoesNotWaitForItself() {
        Looks.sentence("WRITTEN: .. each one ahead of it (not the one itself)");
        ScoreMachine x = new ScoreMachine();
        x.latency(1, 1);
        x.put(0, 8, 1, 1, 1);
        x.run(3000);
        Looks.dueCycles(x, 0, 1, 2, 3, 4);
    }

    private static void writtenDoesNotWaitForOneBehind() {
        Looks.sentence("WRITTEN: .. each one ahead of it (not one behind)");
        ScoreMachine x = new ScoreMachine();
        x.put(0, 12, 2, 9, 9);
        x.put(1, 6, 1, 0, 5);
        x.put(2, 11, 3, 1, 2);
        x.run(3000);
        Looks.dueCycles(x, 1, 2, 3, 5, 6);
        Looks.dueCycles(x, 2, 3, 16);
    }

    private static void thoseThatWriteNoneDoNotWait() {
        Looks.sentence("(Of those that WRITE none the first behind DONE.)");
        for (int code = 15; code <= 18; code++) {
            ScoreMachine x = new ScoreMachine();
            x.put(0, 12, 1, 9, 9);
            x.put(1, 1, 2, 1, 3);
            x.put(2, code, 3, 4, 9);
            x.run(3000);
            Looks.due("READ of the reader of 3", Looks.told(x, 1, Looks.READ), 16);
            Looks.dueCycles(x, 2, 3, 4, code == 15 ? 7 : 5, code == 15 ? 8 : 6);
        }
    }

    private static void registerHasItsValueWithWritten() {
        Looks.sentence("Then its register (MEMORY for 15) has its value (a register)");
        for (int register = 0; register < 16; register++) {
            ScoreMachine x = new ScoreMachine();
            x.set(0, register, 3);
            x.put(0, 7, register, register, 4);
            for (int cycle = 1; cycle <= 4; cycle++) {
                x.run(1);
                Looks.due("register in cycle " + cycle, x.register(register), 3);
            }
            x.run(1);
            Looks.due("register with WRITTEN", x.register(register), 7);
        }
    }

    private static void memoryHasItsValueWithWritten() {
        Looks.sentence("Then its register (MEMORY for 15) has its value (MEMORY)");
        int[] cells = {0, 1, 254, 255};
        for (int cell : cells) {
            ScoreMachine x = new ScoreMachine();
            x.set(0, 2, 77);
            x.set(1, cell, 6);
            x.put(0, 15, 2, 1, cell);
            for (int cycle = 1; cycle <= 5; cycle++) {
                x.run(1);
                Looks.due("memory in cycle " + cycle, x.memory(cell), 6);
            }
            x.run(1);
            Looks.due("memory with WRITTEN", x.memory(cell), 77);
        }
    }

    private static void readerHasWhatWasAhead() {
        Looks.sentence("what comes of them is what one plain step after another would make");
        ScoreMachine x = new ScoreMachine();
        x.set(0, 4, 5);
        x.put(0, 12, 1, 9, 9);
        x.put(1, 15, 4, 1, 0);
        x.put(2, 6, 4, 0, 9);
        x.put(3, 14, 5, 6, 0);
        x.run(3000);
        Looks.due("memory(0)", x.memory(0), 5);
        Looks.due("register(4)", x.register(4), 9);
        Looks.due("register(5)", x.register(5), 5);
    }

    private static void haltAlone() {
        Looks.sentence("HALT: the first cycle (of HALT as the first INSTRUCTION)");
        for (int width = 1; width <= 4; width++) {
            ScoreMachine x = new ScoreMachine();
            x.width(width);
            Looks.due("count(1) at CYCLE 0", x.count(1), 0);
            Looks.due("run(3000)", x.run(3000), 1);
            Looks.due("count(1)", x.count(1), 1);
        }
    }

    private static void haltBehindTheLastWritten() {
        Looks.sentence("HALT: .. in which each one ahead of it is WRITTEN in a cycle ahead");
        ScoreMachine x = new ScoreMachine();
        x.put(0, 12, 1, 9, 9);
        x.put(1, 8, 2, 9, 9);
        x.run(14);
        Looks.due("count(1) ahead of the last WRITTEN", x.count(1), 0);
        x.run(1);
        Looks.due("count(3) in the last WRITTEN", x.count(3), 0);
        Looks.due("count(1) in the last WRITTEN", x.count(1), 0);
        Looks.due("run(3000)", x.run(3000), 1);
        Looks.due("count(1)", x.count(1), 1);
        Looks.due("count(0)", x.count(0), 16);
    }

    private static void haltAtFullWidth() {
        Looks.sentence("HALT: the first cycle, not ahead of ISSUED of the one before it");
        for (int width = 1; width <= 4; width++) {
            ScoreMachine x = new ScoreMachine();
            x.width(width);
            x.latency(0, 1);
            x.put(0, 6, 1, 0, 1);
            Looks.due("run(3000)", x.run(3000), 5);
            ScoreMachine y = new ScoreMachine();
            y.width(width);
            y.put(0, 6, 1, 0, 1);
            y.put(1, 6, 1, 0, 1);
            Looks.due("run(3000)", y.run(3000), 11);
            Looks.dueCycles(y, 1, 6, 7, 9, 10);
        }
    }

    private static void haltBehindBranch() {
        Looks.sentence("HALT: .. each one ahead of it is WRITTEN (a branch, too)");
        for (int latency = 1; latency <= 30; latency += 29) {
            ScoreMachine x = new ScoreMachine();
            x.latency(5, latency);
            x.put(0, 18, 0, 0, 9);
            x.run(3 + latency);
            Looks.due("count(1) in WRITTEN of the branch", x.count(1), 0);
            Looks.due("run(3000)", x.run(3000), 1);
            Looks.due("count(1)", x.count(1), 1);
        }
    }

    private static void cyclesDoNotGoOn() {
        Looks.sentence("the RUN is over with that cycle (the cycles do not go on)");
        Looks.Calls program = x -> {
            x.width(2);
            x.put(0, 6, 1, 0, 1);
            x.put(1, 15, 1, 0, 1);
            x.run(3000);
        };
        long[] before = Looks.all(program);
        Looks.due("count(1)", before[1], 1);
        Looks.dueAlike("behind run(1)", Looks.all(program, x -> x.run(1)), before);
        Looks.dueAlike("behind run(3000)", Looks.all(program, x -> x.run(3000)), before);
        Looks.dueAlike("behind run(0)", Looks.all(program, x -> x.run(0)), before);
    }

    private static void dueStalls(ScoreMachine x, int branch, int unit, int same) {
        Looks.due("count(4)", x.count(4), branch);
        Looks.due("count(5)", x.count(5), unit);
        Looks.due("count(6)", x.count(6), same);
    }

    private static void stallsAheadOfFirstCycle() {
        Looks.sentence("STALLS .. (Ahead of its first cycle none)");
        ScoreMachine x = new ScoreMachine();
        x.put(0, 6, 1, 0, 1);
        x.put(1, 6, 1, 0, 1);
        dueStalls(x, 0, 0, 0);
        x.run(1);
        dueStalls(x, 0, 0, 0);
        x.run(1);
        dueStalls(x, 0, 1, 0);
    }

    private static void stallsNotForHalt() {
        Looks.sentence("STALLS: each cycle in which the next INSTRUCTION (not HALT) is not issued");
        ScoreMachine x = new ScoreMachine();
        x.width(4);
        x.put(0, 12, 1, 9, 9);
        x.put(1, 0, 1, 9, 9);
        Looks.due("run(3000)", x.run(3000), 16);
        dueStalls(x, 0, 0, 0);
        ScoreMachine y = new ScoreMachine();
        y.width(4);
        y.put(0, 18, 0, 0, 1);
        Looks.due("run(3000)", y.run(3000), 5);
        dueStalls(y, 0, 0, 0);
    }

    private static void stallsNotAtFullWidth() {
        Looks.sentence("STALLS: .. though fewer than WIDTH were");
        for (int width = 1; width <= 4; width++) {
            ScoreMachine x = new ScoreMachine();
            x.width(width);
            x.put(0, 8, 1, 9, 9);
            x.put(1, 11, 2, 9, 9);
            x.put(2, 12, 3, 9, 9);
            x.put(3, 14, 4, 9, 9);
            x.put(width, 8, 1, 9, 9);
            x.run(1);
            Looks.due("count(2)", x.count(2), width);
            dueStalls(x, 0, 0, 0);
            x.run(1);
            Looks.due("count(2)", x.count(2), width);
            dueStalls(x, 0, 1, 0);
        }
    }

    private static void stallsOnceEachCycle() {
        Looks.sentence("STALLS .. each cycle once");
        ScoreMachine x = new ScoreMachine();
        x.width(4);
        x.put(0, 6, 1, 0, 1);
        x.put(1, 6, 2, 0, 1);
        x.put(2, 6, 3, 0, 1);
        for (int cycle = 1; cycle <= 10; cycle++) {
            x.run(1);
            dueStalls(x, 0, cycle, 0);
        }
        x.run(1);
        Looks.due("count(2)", x.count(2), 3);
        dueStalls(x, 0, 10, 0);
        x.run(1);
        dueStalls(x, 0, 10, 0);
    }

    private static void stallsByFirstHindrance() {
        Looks.sentence("STALLS .. counts for the first of 1, 2, 3 that hinders");
        ScoreMachine x = new ScoreMachine();
        x.width(4);
        x.put(0, 11, 1, 9, 9);
        x.put(1, 18, 0, 0, 2);
        x.put(2, 11, 1, 9, 9);
        x.put(3, 12, 1, 9, 9);
        int[][] due = {{1, 0, 0}, {2, 0, 0}, {3, 0, 0}, {4, 0, 0}, {4, 1, 0}, {4, 2, 0}, {4, 3, 0},
            {4, 4, 0}, {4, 5, 0}, {4, 5, 1}, {4, 5, 2}};
        for (int[] d : due) {
            x.run(1);
            dueStalls(x, d[0], d[1], d[2]);
        }
    }

    private static void plainBeginsAlike() {
        Looks.sentence("THE PLAIN MACHINE has the same PROGRAM, begins alike");
        ScoreMachine x = new ScoreMachine();
        for (int i = 0; i < 16; i++) {
            x.set(0, i, -1 - i);
            x.set(1, 17 * i, 1 + i);
        }
        for (int i = 0; i < 16; i++) {
            Looks.due("plain(0, " + i + ")", x.plain(0, i), -1 - i);
            Looks.due("plain(1, " + 17 * i + ")", x.plain(1, 17 * i), 1 + i);
        }
        x.put(0, 6, 1, 0, 5);
        Looks.due("nothing is done at CYCLE 0", x.plain(0, 1), -2);
    }

    private static void plainAsManyAsIssued() {
        Looks.sentence("does one INSTRUCTION after another, up to as many as were ISSUED");
        ScoreMachine x = new ScoreMachine();
        x.width(2);
        x.put(0, 6, 1, 0, 5);
        x.put(1, 15, 1, 0, 8);
        x.put(2, 6, 1, 0, 6);
        x.run(1);
        Looks.due("plain(0, 1)", x.plain(0, 1), 5);
        Looks.due("plain(1, 8)", x.plain(1, 8), 5);
        Looks.due("register(1)", x.register(1), 0);
        x.run(4);
        Looks.due("the third is not issued, plain(0, 1)", x.plain(0, 1), 5);
        Looks.due("register(1)", x.register(1), 5);
        Looks.due("memory(8)", x.memory(8), 0);
        x.run(1);
        Looks.due("the third is issued, plain(0, 1)", x.plain(0, 1), 6);
        Looks.due("register(1)", x.register(1), 5);
    }

    private static void plainInTheEnd() {
        Looks.sentence("THE PLAIN MACHINE (when the RUN is over, both hold the same)");
        ScoreMachine x = new ScoreMachine();
        x.width(3);
        x.units(0, 2);
        for (int place = 0; place < 20; place++) {
            x.put(place, 1 + place % 15, place % 7, (place * 3) % 7, place * 5);
        }
        Looks.due("over", x.run(3000) < 3000, true);
        for (int i = 0; i < 16; i++) {
            Looks.due("register(" + i + ")", x.register(i), x.plain(0, i));
        }
        for (int i = 0; i < 200; i++) {
            Looks.due("memory(" + i + ")", x.memory(i), x.plain(1, i));
        }
    }
}
