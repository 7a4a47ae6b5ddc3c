import java.util.Arrays;

/** Terms, the instructions: each sentence that names a boundary case has a test of its own. */
final class InstructionEdgesTest {
    public static void main(String[] args) {
        Check check = new Check();
        variablesByFiveBits(check);
        numbersHaveTheHigherByteFirst(check);
        addressesByTenBits(check);
        pagesBelow128(check);
        pagesFrom128On(check);
        sumsWrap(check);
        differencesWrap(check);
        sumsWithNumbersWrap(check);
        operandsMayBeOneVariable(check);
        andAndOrKeepTheSign(check);
        shiftsUp(check);
        shiftsDown(check);
        callWithEightReturns(check);
        retWithoutReturns(check);
        loops(check);
        loopWraps(check);
        comparesAtTheEdge(check);
        comparesWithAByte(check);
        comparesWithTwoBytes(check);
        comparesWithAVariable(check);
        noSuchComparison(check);
        killsAndKeepsTheRest(check);
        startsByFourBits(check);
        eachByFourBits(check);
        eachOfNone(check);
        eachOfAll(check);
        eachAsAnother(check);
        pagesAtFirst(check);
        fillsByFourBits(check);
        copiesOntoItself(check);
        showsTheWorkingPage(check);
        drawsWithZoom(check);
        noSuchInstruction(check);
        bytesBehindTheLast(check);
        faultsLeaveTheRest(check);
        check.finish();
    }

    private static Stage with(int v, int w, int... program) {
        Stage m = new Stage();
        m.set(1, v);
        m.set(2, w);
        return Load.run(m, program);
    }

    private static int computed(int v, int w, int... program) {
        int[] whole = Arrays.copyOf(program, program.length + 1);
        whole[program.length] = Load.YIELD;
        return with(v, w, whole).get(1);
    }

    /** "v, w a byte whose lowest 5 bits are a variable's number" */
    private static void variablesByFiveBits(Check check) {
        int[] bytes = {0, 31, 32, 63, 64, 96, 127, 128, 160, 223, 224, 255};
        for (int b : bytes) {
            int number = b % 32;
            check.due("SET " + b, Load.ran(Load.SET, b, 0, 9, Load.YIELD).get(number), 9);
            Stage m = new Stage();
            m.set(number, 7);
            Load.run(m, Load.MOVE, 5, b, Load.ADD, 6, b, Load.SUB, 7, b,
                Load.LOOP, b, 0, 20, 0, 0, 0, 0, 0, 0, 0, Load.YIELD);
            check.due("MOVE from " + b, m.get(5), 7);
            check.due("ADD of " + b, m.get(6), 7);
            check.due("SUB of " + b, m.get(7), -7);
            check.due("LOOP of " + b, m.get(number), 6);
            m = new Stage();
            m.set(number, 3);
            Load.run(m, Load.ADDK, b, 0, 1, Load.SHL, b, 2, Load.OR, b, 0, 1,
                Load.AND, b, 0, 29, Load.SHR, b, 1, Load.YIELD);
            check.due("ADDK, SHL, OR, AND and SHR of " + b, m.get(number), 8);
            m = new Stage();
            m.set(number, 3);
            Load.run(m, Load.IF, 128, b, b, 0, 9, 0, 0, 0, Load.IF, 0, b, 3, 0, 20, 0, 0, 0, 0, 0, Load.YIELD);
            check.due("IF of " + b, m.channel(0, 0), 21);
        }
    }

    /** "Numbers of two bytes have the higher one first.", "s two bytes with a sign" */
    private static void numbersHaveTheHigherByteFirst(Check check) {
        int[][] rows = {
            {0, 0, 0}, {0, 1, 1}, {1, 0, 256}, {0, 255, 255}, {127, 255, 32767}, {128, 0, -32768}, {255, 255, -1},
            {255, 0, -256}, {128, 1, -32767}
        };
        for (int[] row : rows) {
            check.due("SET " + row[2], computed(77, 0, Load.SET, 1, row[0], row[1]), row[2]);
            check.due("ADDK " + row[2], computed(0, 0, Load.ADDK, 1, row[0], row[1]), row[2]);
            check.due("OR " + row[2], computed(0, 0, Load.OR, 1, row[0], row[1]), row[2]);
            check.due("AND " + row[2], computed(-1, 0, Load.AND, 1, row[0], row[1]), row[2]);
        }
    }

    /** "a two bytes whose lowest 10 bits are an address" */
    private static void addressesByTenBits(Check check) {
        int[][] rows = {
            {0, 0, 0}, {3, 255, 1023}, {4, 0, 0}, {4, 1, 1}, {7, 255, 1023}, {128, 2, 2}, {255, 255, 1023}, {252, 0, 0}
        };
        for (int[] row : rows) {
            int[][] programs = {
                {Load.JUMP, row[0], row[1]}, {Load.CALL, row[0], row[1]}, {Load.LOOP, 1, row[0], row[1]},
                {Load.IF, 0, 1, 0, row[0], row[1]}
            };
            for (int[] program : programs) {
                Stage m = new Stage();
                Load.program(m, 500, program);
                m.ask(0, 500);
                m.frame(1);
                check.due("address behind " + program[0], m.channel(0, 0), row[2]);
            }
            Stage m = Load.ran(Load.START, 1, row[0], row[1], Load.YIELD);
            check.due("asked by START", m.channel(1, 4), row[2]);
            m = new Stage();
            Load.shapes(m, row[2], 0xC3, 0, 0, 2, 0, 0, 0, 1, 0, 0);
            Load.run(m, Load.DRAW, row[0], row[1], 1, 1, 128, Load.YIELD);
            check.due("drawn by DRAW", m.pixel(0, 0, 0), 3);
        }
    }

    /** Page 1 is the working page and page 2 the shown one; answers which page the operand meant. */
    private static int pageMeant(Check check, int p) {
        Stage m = Load.ran(Load.PAGE, 1, Load.SHOW, 2, Load.FILL, p, 5, Load.YIELD);
        int meant = -1;
        for (int page = 0; page < 4; page++) {
            if (m.pixel(page, 0, 0) == 5) {
                check.due("FILL " + p + " fills one page", meant, -1);
                meant = page;
            }
        }
        m = Load.ran(Load.PAGE, 1, Load.SHOW, 2, Load.PAGE, p, Load.YIELD);
        check.due("PAGE " + p, m.about(0), meant);
        m = Load.ran(Load.PAGE, 1, Load.SHOW, 2, Load.SHOW, p, Load.YIELD);
        check.due("SHOW " + p, m.about(1), meant);
        m = Load.ran(Load.PAGE, 1, Load.SHOW, 2, Load.FILL, meant, 5, Load.COPY, 3 - meant, p, Load.YIELD);
        check.due("COPY from " + p, m.pixel(3 - meant, 0, 0), 5);
        m = Load.ran(Load.PAGE, 1, Load.SHOW, 2, Load.FILL, 3 - meant, 5, Load.COPY, p, 3 - meant, Load.YIELD);
        check.due("COPY to " + p, m.pixel(meant, 0, 0), 5);
        check.due("working page behind COPY " + p, m.about(0), 1);
        check.due("shown page behind COPY " + p, m.about(1), 2);
        return meant;
    }

    /** "p a page: a byte, 0 .. 3 by its lowest two bits if it is below 128" */
    private static void pagesBelow128(Check check) {
        int[] bytes = {0, 1, 2, 3, 4, 7, 63, 64, 124, 125, 126, 127};
        for (int p : bytes) {
            check.due("page of " + p, pageMeant(check, p), p % 4);
        }
    }

    /** "254 the shown page, any other the working page" */
    private static void pagesFrom128On(Check check) {
        int[] bytes = {128, 129, 130, 131, 192, 252, 253, 255};
        for (int p : bytes) {
            check.due("page of " + p, pageMeant(check, p), 1);
        }
        check.due("page of 254", pageMeant(check, 254), 2);
    }

    /** "results wrap into -32768 .. 32767", of ADD */
    private static void sumsWrap(Check check) {
        int[][] rows = {
            {32766, 1, 32767}, {32767, 1, -32768}, {32767, 32767, -2}, {-32767, -1, -32768}, {-32768, -1, 32767},
            {-32768, -32768, 0}, {32767, -32768, -1}, {1, 32767, -32768}
        };
        for (int[] row : rows) {
            check.due("ADD " + row[0] + ", " + row[1], computed(row[0], row[1], Load.ADD, 1, 2), row[2]);
        }
    }

    /** "results wrap into -32768 .. 32767", of SUB */
    private static void differencesWrap(Check check) {
        int[][] rows = {
            {-32767, 1, -32768}, {-32768, 1, 32767}, {32767, -1, -32768}, {32766, -1, 32767}, {0, -32768, -32768},
            {-1, -32768, 32767}, {-32768, 32767, 1}, {32767, -32768, -1}, {3, 5, -2}
        };
        for (int[] row : rows) {
            check.due("SUB " + row[0] + ", " + row[1], computed(row[0], row[1], Load.SUB, 1, 2), row[2]);
        }
    }

    /** "results wrap into -32768 .. 32767", of ADDK */
    private static void sumsWithNumbersWrap(Check check) {
        int[][] rows = {{32767, 1, -32768}, {-32768, -1, 32767}, {-32768, -32768, 0}, {32767, 32767, -2}, {1, -1, 0}};
        for (int[] row : rows) {
            int got = computed(row[0], 0, Load.ADDK, 1, Load.high(row[1]), Load.low(row[1]));
            check.due("ADDK " + row[0] + ", " + row[1], got, row[2]);
        }
    }

    /** "1 MOVE v w", "2 ADD v w", "4 SUB v w": v and w may be one variable */
    private static void operandsMayBeOneVariable(Check check) {
        check.due("MOVE to itself", computed(-9, 0, Load.MOVE, 1, 1), -9);
        check.due("ADD to itself", computed(16384, 0, Load.ADD, 1, 1), -32768);
        check.due("SUB from itself", computed(-32768, 0, Load.SUB, 1, 1), 0);
        check.due("w stays", with(3, 4, Load.ADD, 1, 2, Load.YIELD).get(2), 4);
    }

    /** "5 AND v s. 6 OR v s." */
    private static void andAndOrKeepTheSign(Check check) {
        check.due("AND", computed(-1, 0, Load.AND, 1, 0x7F, 0xFF), 32767);
        check.due("AND", computed(-1, 0, Load.AND, 1, 0x80, 0), -32768);
        check.due("AND", computed(32767, 0, Load.AND, 1, 0x80, 0), 0);
        check.due("OR", computed(32767, 0, Load.OR, 1, 0x80, 0), -1);
        check.due("OR", computed(0, 0, Load.OR, 1, 0x80, 0), -32768);
        check.due("OR", computed(-32768, 0, Load.OR, 1, 0, 1), -32767);
    }

    /** "7 SHL v k: v moved up by k's lowest 4 bits" */
    private static void shiftsUp(Check check) {
        int[][] rows = {
            {5, 0, 5}, {-5, 0, -5}, {1, 14, 16384}, {1, 15, -32768}, {2, 15, 0}, {3, 15, -32768},
            {1, 16, 1}, {1, 17, 2}, {1, 31, -32768}, {1, 32, 1}, {1, 240, 1}, {1, 255, -32768}, {-1, 15, -32768},
            {16384, 1, -32768}, {-32768, 1, 0}, {0x5555, 1, -21846}
        };
        for (int[] row : rows) {
            check.due("SHL " + row[0] + ", " + row[1], computed(row[0], 0, Load.SHL, 1, row[1]), row[2]);
        }
    }

    /** "8 SHR v k: moved down, the sign coming in" */
    private static void shiftsDown(Check check) {
        int[][] rows = {
            {5, 0, 5}, {-5, 0, -5}, {-5, 1, -3}, {5, 1, 2}, {32767, 14, 1}, {32767, 15, 0}, {-32768, 15, -1},
            {-32768, 14, -2}, {-1, 1, -1}, {-1, 15, -1}, {100, 16, 100}, {100, 17, 50},
            {-100, 240, -100}, {-100, 255, -1}
        };
        for (int[] row : rows) {
            check.due("SHR " + row[0] + ", " + row[1], computed(row[0], 0, Load.SHR, 1, row[1]), row[2]);
        }
    }

    /** "a pile of at most 8 return addresses", "10 CALL a: [..] (FAULT 1 if 8 are there)" */
    private static void callWithEightReturns(Check check) {
        Stage m = new Stage();
        Load.program(m, 0, Load.ADDK, 1, 0, 1, Load.CALL, 0, 0);
        m.ask(0, 0);
        m.frame(16);
        check.due("eight calls", m.get(1), 8);
        check.due("returns", m.channel(0, 2), 8);
        check.due("no fault", m.channel(0, 3), 0);
        check.due("address", m.channel(0, 0), 0);
        check.due("frame(9)", m.frame(9), 1);
        check.due("done", m.about(3), 2);
        check.due("returns", m.channel(0, 2), 8);
        check.due("fault", m.channel(0, 3), 1);
        check.due("address", m.channel(0, 0), -1);
        // Where one came back, one more may be called.
        m = new Stage();
        Load.program(m, 0, Load.LOOP, 2, 0, 20, Load.CALL, 0, 32, Load.YIELD);
        Load.program(m, 20, Load.CALL, 0, 0);
        Load.program(m, 32, Load.YIELD, Load.RET);
        m.set(2, 8);
        m.ask(0, 0);
        m.frame(500);
        check.due("returns", m.channel(0, 2), 8);
        check.due("address", m.channel(0, 0), 33);
        m.frame(500);
        check.due("returns", m.channel(0, 2), 7);
        check.due("address", m.channel(0, 0), 8);
        check.due("no fault", m.channel(0, 3), 0);
    }

    /** "11 RET (FAULT 2 if none is)" */
    private static void retWithoutReturns(Check check) {
        Stage m = Load.ran(Load.RET);
        check.due("fault", m.channel(0, 3), 2);
        check.due("address", m.channel(0, 0), -1);
        check.due("returns", m.channel(0, 2), 0);
        m = new Stage();
        Load.program(m, 0, Load.CALL, 0, 8, Load.RET);
        Load.program(m, 8, Load.RET);
        m.ask(0, 0);
        m.frame(2);
        check.due("no fault", m.channel(0, 3), 0);
        check.due("came back", m.channel(0, 0), 3);
        m.frame(1);
        check.due("fault", m.channel(0, 3), 2);
        // The pile of another channel does not help.
        m = new Stage();
        Load.program(m, 0, Load.CALL, 0, 8);
        Load.program(m, 8, Load.YIELD, Load.RET);
        m.ask(0, 0);
        m.ask(1, 9);
        m.frame(5);
        check.due("fault of 1", m.channel(1, 3), 2);
        check.due("returns of 0", m.channel(0, 2), 1);
    }

    /** "12 LOOP v a: v becomes v - 1, and if that is not 0, JUMP" */
    private static void loops(Check check) {
        int[][] rows = {{1, 0, 4}, {2, 1, 40}, {0, -1, 40}, {-1, -2, 40}, {32767, 32766, 40}};
        for (int[] row : rows) {
            loopFrom(check, row[0], row[1], row[2]);
        }
    }

    /** "results wrap into -32768 .. 32767", of LOOP */
    private static void loopWraps(Check check) {
        loopFrom(check, -32768, 32767, 40);
        loopFrom(check, -32767, -32768, 40);
    }

    private static void loopFrom(Check check, int v, int next, int address) {
        Stage m = new Stage();
        Load.program(m, 0, Load.LOOP, 1, 0, 40);
        m.set(1, v);
        m.ask(0, 0);
        m.frame(1);
        check.due("LOOP of " + v, m.get(1), next);
        check.due("LOOP of " + v + " went", m.channel(0, 0), address);
    }

    /** The program is IF alone, of variable 1, to 600. */
    private static boolean jumps(int v, int w, int... program) {
        Stage m = new Stage();
        int[] whole = Arrays.copyOf(program, program.length + 2);
        whole[program.length] = 2;
        whole[program.length + 1] = 88;
        Load.program(m, 0, whole);
        m.set(1, v);
        m.set(2, w);
        m.ask(0, 0);
        m.frame(1);
        return m.channel(0, 0) == 600;
    }

    /** "0 equal, 1 not equal, 2 above, 3 not below, 4 below, 5 not above" */
    private static void comparesAtTheEdge(Check check) {
        // Below, equal and above, for each kind.
        boolean[][] want = {
            {false, true, false}, {true, false, true}, {false, false, true}, {false, true, true},
            {true, false, false}, {true, true, false}
        };
        for (int kind = 0; kind < 6; kind++) {
            for (int i = 0; i < 3; i++) {
                int v = 100 + i - 1;
                check.due("IF " + kind + " of " + v + ", 100", jumps(v, 0, Load.IF, kind, 1, 100), want[kind][i]);
                // "k's lowest 3 bits": the others that tell of no operand do not matter.
                check.due("IF " + (kind | 56) + " of " + v, jumps(v, 0, Load.IF, kind | 56, 1, 100), want[kind][i]);
            }
        }
    }

    /** "else a byte 0 .. 255" */
    private static void comparesWithAByte(Check check) {
        check.due("0 with 0", jumps(0, 0, Load.IF, 0, 1, 0), true);
        check.due("127 with 127", jumps(127, 0, Load.IF, 0, 1, 127), true);
        check.due("128 with 128", jumps(128, 0, Load.IF, 0, 1, 128), true);
        check.due("-128 with 128", jumps(-128, 0, Load.IF, 0, 1, 128), false);
        check.due("255 with 255", jumps(255, 0, Load.IF, 0, 1, 255), true);
        check.due("-1 with 255", jumps(-1, 0, Load.IF, 0, 1, 255), false);
        check.due("256 above 255", jumps(256, 0, Load.IF, 2, 1, 255), true);
        check.due("-1 below 0", jumps(-1, 0, Load.IF, 4, 1, 0), true);
    }

    /** "else two bytes with a sign if bit 6 is" */
    private static void comparesWithTwoBytes(Check check) {
        check.due("-1 with -1", jumps(-1, 0, Load.IF, 64, 1, 255, 255), true);
        check.due("-32768 with -32768", jumps(-32768, 0, Load.IF, 64, 1, 128, 0), true);
        check.due("32767 with 32767", jumps(32767, 0, Load.IF, 64, 1, 127, 255), true);
        check.due("32767 above -32768", jumps(32767, 0, Load.IF, 66, 1, 128, 0), true);
        check.due("-32768 above 32767", jumps(-32768, 0, Load.IF, 66, 1, 127, 255), false);
        check.due("-32768 below -32767", jumps(-32768, 0, Load.IF, 68, 1, 128, 1), true);
        check.due("256 with 256", jumps(256, 0, Load.IF, 64, 1, 1, 0), true);
    }

    /** "x is a variable's number byte if k's bit 7 is set" */
    private static void comparesWithAVariable(Check check) {
        check.due("variable", jumps(-7, -7, Load.IF, 128, 1, 2), true);
        check.due("with itself", jumps(-7, 0, Load.IF, 128, 1, 1), true);
        check.due("bit 6 too", jumps(-7, -7, Load.IF, 192, 1, 2), true);
        check.due("all bits but the lowest", jumps(-7, -7, Load.IF, 248, 1, 0xE2), true);
        check.due("-32768 below 32767", jumps(-32768, 32767, Load.IF, 132, 1, 2), true);
        check.due("another", jumps(-7, -6, Load.IF, 128, 1, 2), false);
    }

    /** "(FAULT 3 for 6, 7, tested behind x)" */
    private static void noSuchComparison(Check check) {
        for (int others = 0; others < 256; others += 8) {
            for (int kind = 4; kind < 8; kind++) {
                Stage m = new Stage();
                Load.program(m, 0, Load.IF, others | kind, 1, 1);
                m.ask(0, 0);
                m.frame(1);
                check.due("fault of IF " + (others | kind), m.channel(0, 3), kind > 5 ? 3 : 0);
                if (kind > 5) {
                    check.due("address", m.channel(0, 0), -1);
                    check.due("the turn ended", m.frame(1), 0);
                }
            }
        }
    }

    /** "15 KILL: the channel has no address" */
    private static void killsAndKeepsTheRest(Check check) {
        Stage m = Load.ran(Load.START, 0, 0, 77, Load.EACH, 0, 0, 1, Load.KILL, Load.YIELD);
        check.due("address", m.channel(0, 0), -1);
        check.due("what is asked stays", m.channel(0, 4), 77);
        check.due("paused, so no turn", m.frame(1), 0);
        check.due("address", m.channel(0, 0), 77);
        check.due("paused", m.channel(0, 1), 1);
    }

    /** "16 START k a: the address is asked for channel k (its lowest 4 bits)" */
    private static void startsByFourBits(Check check) {
        int[] bytes = {0, 1, 15, 16, 31, 127, 128, 240, 255};
        for (int b : bytes) {
            Stage m = Load.ran(Load.START, b, 0, 33, Load.YIELD);
            for (int k = 0; k < 16; k++) {
                check.due("asked for " + k + " by START " + b, m.channel(k, 4), k == b % 16 ? 33 : -2);
            }
        }
    }

    private static void endsAsked(Check check, int first, int last, int from, int to) {
        Stage m = Load.ran(Load.EACH, first, last, 2, Load.YIELD);
        for (int k = 0; k < 16; k++) {
            int want = k >= from && k <= to ? -1 : -2;
            check.due("asked for " + k + " by EACH " + first + ", " + last, m.channel(k, 4), want);
        }
    }

    /** "17 EACH k l m: of channels k to l (lowest 4 bits each [..])" */
    private static void eachByFourBits(Check check) {
        endsAsked(check, 3, 3, 3, 3);
        endsAsked(check, 16, 16, 0, 0);
        endsAsked(check, 255, 255, 15, 15);
        endsAsked(check, 0x23, 0x15, 3, 5);
        endsAsked(check, 0xF0, 0x0F, 0, 15);
        endsAsked(check, 14, 0x1F, 14, 15);
    }

    /** "none if k is above l" */
    private static void eachOfNone(Check check) {
        endsAsked(check, 1, 0, 16, 16);
        endsAsked(check, 15, 0, 16, 16);
        endsAsked(check, 15, 14, 16, 16);
        endsAsked(check, 5, 16, 16, 16);
        check.due("no fault", Load.ran(Load.EACH, 1, 0, 2, Load.YIELD).channel(0, 3), 0);
    }

    /** "it is asked: m 0: not paused, 1: paused, 2: no address" */
    private static void eachOfAll(Check check) {
        Stage m = Load.ran(Load.EACH, 0, 15, 1, Load.YIELD);
        m.frame(1);
        for (int k = 0; k < 16; k++) {
            check.due("paused " + k, m.channel(k, 1), 1);
        }
        m = Load.ran(Load.EACH, 0, 15, 1, Load.EACH, 0, 15, 0, Load.YIELD);
        m.frame(1);
        for (int k = 0; k < 16; k++) {
            check.due("not paused " + k, m.channel(k, 1), 0);
        }
        endsAsked(check, 0, 15, 0, 15);
    }

    /** "(FAULT 4 for another m)" */
    private static void eachAsAnother(Check check) {
        int[] others = {3, 4, 5, 6, 16, 17, 18, 127, 128, 129, 130, 254, 255};
        for (int other : others) {
            Stage m = Load.ran(Load.EACH, 0, 15, other, Load.ADDK, 1, 0, 1, Load.YIELD);
            check.due("fault of " + other, m.channel(0, 3), 4);
            check.due("address", m.channel(0, 0), -1);
            check.due("instructions", m.about(3), 1);
            check.due("its turn ended", m.get(1), 0);
            for (int k = 0; k < 16; k++) {
                check.due("nothing asked for " + k, m.channel(k, 4), -2);
            }
            m.frame(1);
            for (int k = 0; k < 16; k++) {
                check.due("not paused " + k, m.channel(k, 1), 0);
            }
            m = Load.ran(Load.EACH, 5, 6, 1, Load.EACH, 6, 7, other);
            m.frame(1);
            check.due("what was asked before stays asked for 6", m.channel(6, 1), 1);
            check.due("nothing asked for 7", m.channel(7, 1), 0);
        }
    }

    /** "18 PAGE p: it is the working page (0 at first)", "21 SHOW p: it is the shown page (0 at first)" */
    private static void pagesAtFirst(Check check) {
        Stage m = Load.ran(Load.FILL, 255, 3, Load.YIELD);
        check.due("working page at first", m.pixel(0, 0, 0), 3);
        m = Load.ran(Load.FILL, 254, 4, Load.YIELD);
        check.due("shown page at first", m.pixel(0, 0, 0), 4);
        m = Load.ran(Load.PAGE, 3, Load.YIELD, Load.YIELD);
        m.frame(1);
        check.due("working page stays", m.about(0), 3);
        check.due("shown page stays", m.about(1), 0);
        m = Load.ran(Load.SHOW, 3, Load.YIELD);
        check.due("working page stays", m.about(0), 0);
        check.due("shown page", m.about(1), 3);
    }

    /** "19 FILL p k: all its pixels get the colour of k's lowest 4 bits" */
    private static void fillsByFourBits(Check check) {
        int[] bytes = {0, 1, 15, 16, 17, 127, 128, 240, 255};
        for (int b : bytes) {
            Stage m = Load.ran(Load.FILL, 2, 6, Load.FILL, 2, b, Load.YIELD);
            for (int i = 0; i < 64 * 40; i++) {
                check.due("pixel " + i + " behind FILL " + b, m.pixel(2, i % 64, i / 64), b % 16);
            }
            check.due("the page before", m.pixel(1, 63, 39), 0);
            check.due("the page behind", m.pixel(3, 0, 0), 0);
        }
    }

    /** "20 COPY p q: page p becomes as page q is" */
    private static void copiesOntoItself(Check check) {
        Stage m = new Stage();
        // One pixel in each corner of page 0.
        Load.shapes(m, 0, 0xC7, 0, 0, 2, 0, 0, 0, 1, 0, 0);
        m.set(1, 63);
        m.set(2, 39);
        Load.run(m, Load.DRAW, 0, 0, 1, 2, 128, Load.DRAW, 0, 0, 3, 2, 128, Load.DRAW, 0, 0, 1, 3, 128,
            Load.DRAW, 0, 0, 3, 3, 128, Load.COPY, 0, 0, Load.FILL, 3, 1, Load.COPY, 3, 0, Load.YIELD);
        for (int page = 0; page < 4; page++) {
            for (int i = 0; i < 64 * 40; i++) {
                int x = i % 64;
                int y = i / 64;
                boolean corner = (x == 0 || x == 63) && (y == 0 || y == 39);
                int want = corner && page % 3 == 0 ? 7 : 0;
                check.due("page " + page + ", pixel " + x + ", " + y, m.pixel(page, x, y), want);
            }
        }
    }

    /** "254 the shown page, any other the working page": as they are then */
    private static void showsTheWorkingPage(Check check) {
        Stage m = Load.ran(Load.PAGE, 3, Load.SHOW, 255, Load.PAGE, 1, Load.YIELD);
        check.due("shown page", m.about(1), 3);
        check.due("working page", m.about(0), 1);
        m = Load.ran(Load.SHOW, 2, Load.PAGE, 254, Load.SHOW, 1, Load.YIELD);
        check.due("working page", m.about(0), 2);
        check.due("shown page", m.about(1), 1);
        m = Load.ran(Load.PAGE, 1, Load.SHOW, 2, Load.PAGE, 255, Load.SHOW, 254, Load.YIELD);
        check.due("working page", m.about(0), 1);
        check.due("shown page", m.about(1), 2);
    }

    /** "with zoom: variable z's number if the byte z is below 128, else 64" */
    private static void drawsWithZoom(Check check) {
        // A row from 0 to 16 with a zoom of 64, and to 32 and 48 with those of variables 0 and 31.
        int[][] rows = {
            {0, 33}, {31, 49}, {32, 33}, {63, 49}, {96, 33}, {126, 1}, {127, 49},
            {128, 17}, {129, 17}, {159, 17}, {254, 17}, {255, 17}
        };
        for (int[] row : rows) {
            Stage m = new Stage();
            Load.shapes(m, 0, 0xC5, 0, 0, 2, 16, 0, 16, 64, 0, 0);
            m.set(0, 128);
            m.set(31, 192);
            m.set(30, 1);
            Load.run(m, Load.DRAW, 0, 0, 1, 1, row[0], Load.YIELD);
            int wide = 0;
            for (int x = 0; x < 64; x++) {
                wide += m.pixel(0, x, 0) == 5 ? 1 : 0;
            }
            check.due("pixels with z " + row[0], wide, row[1]);
        }
        // 64 and no other: 255 pixels from -200 on end at 55, and 65 would make 258 of them.
        Stage m = new Stage();
        Load.shapes(m, 0, 0xC5, 0, 0, 2, 255, 0, 255, 1, 0, 0);
        m.set(1, -200);
        Load.run(m, Load.DRAW, 0, 0, 1, 2, 128, Load.YIELD);
        check.due("the last pixel", m.pixel(0, 55, 0), 5);
        check.due("behind it", m.pixel(0, 56, 0), 0);
    }

    /** "Any other byte: FAULT 5." */
    private static void noSuchInstruction(Check check) {
        for (int code = 23; code < 256; code++) {
            Stage m = Load.ran(code, 1, 0, 1, Load.YIELD);
            check.due("fault of " + code, m.channel(0, 3), 5);
            check.due("address", m.channel(0, 0), -1);
            check.due("instructions", m.about(3), 1);
        }
        Stage m = Load.ran(Load.DRAW, 0, 0, 1, 1, 128, Load.YIELD);
        check.due("22 is none such", m.channel(0, 3), 0);
    }

    /** "Bytes behind the program's last one: the first one, and so on." */
    private static void bytesBehindTheLast(Check check) {
        int[] program = {Load.SET, 1, 0x12, 0x34, Load.IF, 64, 1, 0x12, 0x34, 2, 0, Load.YIELD};
        for (int at = 1024 - program.length; at < 1024; at++) {
            Stage m = new Stage();
            Load.program(m, at, program);
            Load.program(m, 512, Load.PAGE, 3, Load.YIELD);
            m.ask(0, at);
            m.frame(9);
            check.due("SET at " + at, m.get(1), 0x1234);
            check.due("IF went", m.channel(0, 0), 515);
        }
        int[] draw = {
            Load.FILL, 1, 9, Load.COPY, 2, 1, Load.EACH, 4, 5, 2, Load.START, 7, 2, 1,
            Load.DRAW, 0, 80, 1, 2, 3, Load.YIELD
        };
        for (int at = 1024 - draw.length; at < 1024; at++) {
            Stage m = new Stage();
            Load.program(m, at, draw);
            Load.shapes(m, 80, 0xC5, 0, 0, 2, 0, 0, 0, 1, 0, 0);
            m.set(1, 63);
            m.set(2, 39);
            m.set(3, 64);
            m.ask(0, at);
            m.frame(9);
            check.due("COPY at " + at, m.pixel(2, 9, 9), 9);
            check.due("EACH at " + at, m.channel(5, 4), -1);
            check.due("START at " + at, m.channel(7, 4), 513);
            check.due("DRAW at " + at, m.pixel(0, 63, 39), 5);
            check.due("address", m.channel(0, 0), (at + draw.length) % 1024);
        }
    }

    /** "FAULT: the channel has no address any more, the rest of the instruction is not done." */
    private static void faultsLeaveTheRest(Check check) {
        int[][] faults = {{Load.CALL, 0, 4}, {Load.RET}, {Load.IF, 6, 2, 0, 0, 4}, {Load.EACH, 0, 15, 3}, {23}};
        for (int i = 0; i < faults.length; i++) {
            Stage m = new Stage();
            // CALL of itself fills the pile, if it is the one to fail.
            Load.program(m, 4, faults[i]);
            m.ask(6, 4);
            check.due("frame(500)", m.frame(500), 1);
            check.due("fault", m.channel(6, 3), i + 1);
            check.due("no address any more", m.channel(6, 0), -1);
            check.due("returns", m.channel(6, 2), i == 0 ? 8 : 0);
            check.due("nothing asked", m.channel(6, 4), -2);
            check.due("not paused", m.channel(6, 1), 0);
            check.due("no turn", m.frame(500), 0);
            m.put(0, 4, Load.YIELD << 24);
            m.ask(6, 4);
            check.due("may be asked for again", m.frame(500), 1);
            check.due("address", m.channel(6, 0), 5);
        }
    }
}
