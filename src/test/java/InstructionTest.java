/** The instructions that compute, jump, call and fail, and how their bytes are read. */
final class InstructionTest {
    private static final int[] NUMBERS = {0, 1, -1, 2, 7, 255, 256, -256, 12345, -12345, 32767, -32768};

    public static void main(String[] args) {
        Check check = new Check();
        computes(check);
        variablesByLowestBits(check);
        jumpsAndCalls(check);
        pileFaults(check);
        loops(check);
        compares(check);
        wrongComparisons(check);
        unknownInstructions(check);
        bytesGoRound(check);
        check.finish();
    }

    private static Stage with(int v, int w, int... program) {
        Stage m = new Stage();
        m.set(1, v);
        m.set(2, w);
        return Load.run(m, program);
    }

    private static void computes(Check check) {
        for (int v : NUMBERS) {
            for (int w : NUMBERS) {
                String of = " of " + v + " and " + w;
                int high = Load.high(w);
                int low = Load.low(w);
                int y = Load.YIELD;
                check.due("SET" + of, with(v, w, Load.SET, 1, high, low, y).get(1), w);
                check.due("MOVE" + of, with(v, w, Load.MOVE, 1, 2, y).get(1), w);
                check.due("ADD" + of, with(v, w, Load.ADD, 1, 2, y).get(1), (short) (v + w));
                check.due("ADDK" + of, with(v, w, Load.ADDK, 1, high, low, y).get(1), (short) (v + w));
                check.due("SUB" + of, with(v, w, Load.SUB, 1, 2, y).get(1), (short) (v - w));
                check.due("AND" + of, with(v, w, Load.AND, 1, high, low, y).get(1), (short) (v & w));
                check.due("OR" + of, with(v, w, Load.OR, 1, high, low, y).get(1), (short) (v | w));
                check.due("w is kept" + of, with(v, w, Load.SUB, 1, 2, y).get(2), w);
            }
            for (int k : new int[] {0, 1, 2, 8, 15, 16, 17, 0xF3, 255}) {
                int by = k & 15;
                check.due("SHL " + v + " by " + k, with(v, 0, Load.SHL, 1, k, Load.YIELD).get(1), (short) (v << by));
                check.due("SHR " + v + " by " + k, with(v, 0, Load.SHR, 1, k, Load.YIELD).get(1),
                    Math.floorDiv(v, 1 << by));
            }
            check.due("ADD to itself", with(v, 0, Load.ADD, 1, 1, Load.YIELD).get(1), (short) (2 * v));
        }
    }

    private static void variablesByLowestBits(Check check) {
        Stage m = with(5, 7, Load.ADD, 0xE1, 0x42, Load.SET, 0xFF, 1, 2, Load.YIELD);
        check.due("ADD", m.get(1), 12);
        check.due("SET", m.get(31), 258);
        check.due("address", m.channel(0, 0), 8);
    }

    private static void jumpsAndCalls(Check check) {
        Stage m = new Stage();
        Load.program(m, 0x145, Load.YIELD);
        Load.run(m, Load.JUMP, 0xFD, 0x45);
        check.due("JUMP by the lowest 10 bits", m.channel(0, 0), 0x146);
        Load.program(m, 0x145, Load.CALL, 0xF9, 0x50);
        Load.program(m, 0x148, Load.YIELD);
        Load.program(m, 0x150, Load.YIELD, Load.RET);
        m.ask(0, 0x145);
        m.frame(9);
        check.due("CALL", m.channel(0, 0), 0x151);
        check.due("returns", m.channel(0, 2), 1);
        m.frame(9);
        check.due("RET", m.channel(0, 0), 0x149);
        check.due("returns", m.channel(0, 2), 0);
        check.due("done", m.about(3), 2);
    }

    private static void pileFaults(Check check) {
        Stage m = new Stage();
        int[] calls = new int[25];
        for (int i = 0; i < 8; i++) {
            calls[3 * i] = Load.CALL;
            calls[3 * i + 2] = 3 * i + 3;
        }
        calls[24] = Load.YIELD;
        Load.run(m, calls);
        check.due("eight returns", m.channel(0, 2), 8);
        check.due("no fault", m.channel(0, 3), 0);
        check.due("address", m.channel(0, 0), 25);
        Load.program(m, 25, Load.CALL, 0, 0);
        check.due("frame(1)", m.frame(1), 1);
        check.due("fault", m.channel(0, 3), 1);
        check.due("returns", m.channel(0, 2), 8);
        check.due("address", m.channel(0, 0), -1);
        check.due("done", m.about(3), 1);
        // The last return comes first, eight times, and then there is none.
        m = new Stage();
        Load.program(m, 0, Load.LOOP, 1, 0, 8, Load.YIELD, Load.RET);
        Load.program(m, 8, Load.CALL, 0, 0, Load.ADDK, 2, 0, 1, Load.RET);
        m.set(1, 9);
        m.ask(0, 0);
        m.frame(17);
        check.due("returns", m.channel(0, 2), 8);
        m.frame(1);
        check.due("at RET", m.channel(0, 0), 5);
        m.frame(16);
        check.due("came back to", m.channel(0, 0), 15);
        check.due("v", m.get(2), 8);
        check.due("returns", m.channel(0, 2), 0);
        m.frame(2);
        check.due("fault", m.channel(0, 3), 2);
        check.due("address", m.channel(0, 0), -1);
        check.due("done", m.about(3), 1);
    }

    private static void loops(Check check) {
        int[][] from = {{1, 0, 0}, {2, 1, 1}, {0, -1, 1}, {-32768, 32767, 1}, {-5, -6, 1}};
        for (int[] row : from) {
            Stage m = with(row[0], 0, Load.LOOP, 1, 0, 10, Load.YIELD);
            Load.program(m, 10, Load.YIELD);
            m.set(1, row[0]);
            m.ask(0, 0);
            m.frame(9);
            check.due("LOOP of " + row[0], m.get(1), row[1]);
            check.due("LOOP of " + row[0] + " went", m.channel(0, 0), row[2] == 1 ? 11 : 5);
        }
        Stage m = with(40, 0, Load.ADDK, 3, 0, 2, Load.LOOP, 0x81, 0, 0, Load.YIELD);
        check.due("LOOP forty times", m.get(3), 80);
        check.due("done", m.about(3), 81);
    }

    private static boolean holds(int how, int a, int b) {
        boolean[] all = {a == b, a != b, a > b, a >= b, a < b, a <= b};
        return all[how];
    }

    private static void compares(Check check) {
        int y = Load.YIELD;
        for (int how = 0; how < 6; how++) {
            for (int v : NUMBERS) {
                for (int w : NUMBERS) {
                    String of = "IF " + how + " of " + v + ", " + w;
                    boolean jumps = holds(how, v, w);
                    Stage m = with(v, w, Load.IF, how | 128, 1, 2, 0, 7, y, y);
                    check.due(of + " by variable", m.channel(0, 0), jumps ? 8 : 7);
                    m = with(v, w, Load.IF, how | 0xF8, 0x21, 0x62, 0xFC, 7, y, y);
                    check.due(of + " by variable, other bits", m.channel(0, 0), jumps ? 8 : 7);
                    m = with(v, 0, Load.IF, how | 64, 1, Load.high(w), Load.low(w), 0, 8, y, y);
                    check.due(of + " by two bytes", m.channel(0, 0), jumps ? 9 : 8);
                    m = with(v, 0, Load.IF, how | 0x38, 1, w & 255, 0, 7, y, y);
                    check.due(of + " by a byte", m.channel(0, 0), holds(how, v, w & 255) ? 8 : 7);
                }
            }
        }
    }

    private static void wrongComparisons(Check check) {
        for (int kind = 0; kind < 256; kind++) {
            Stage m = with(0, 0, Load.IF, kind, 1, 0, 0, 0, Load.YIELD, Load.YIELD);
            check.due("fault of IF " + kind, m.channel(0, 3), (kind & 7) > 5 ? 3 : 0);
            if ((kind & 7) > 5) {
                check.due("address", m.channel(0, 0), -1);
                check.due("done", m.about(3), 1);
            }
        }
    }

    private static void unknownInstructions(Check check) {
        for (int code = 0; code < 256; code++) {
            Stage m = Load.ran(code, 0, 0, 0, 0, 0, Load.YIELD);
            boolean unknown = code > 22;
            if (unknown) {
                check.due("fault of " + code, m.channel(0, 3), 5);
                check.due("address behind " + code, m.channel(0, 0), -1);
                check.due("done of " + code, m.about(3), 1);
            } else {
                check.due("no fault 5 of " + code, m.channel(0, 3) != 5, true);
            }
        }
    }

    private static void bytesGoRound(Check check) {
        Stage m = new Stage();
        Load.program(m, 1021, Load.SET, 4, 0x12, 0x34, Load.YIELD);
        m.ask(0, 1021);
        m.frame(9);
        check.due("SET over the end", m.get(4), 0x1234);
        check.due("address", m.channel(0, 0), 2);
        m = new Stage();
        Load.program(m, 1022, Load.CALL, 0x01, 0x00, Load.YIELD);
        Load.program(m, 0x100, Load.RET);
        m.ask(0, 1022);
        m.frame(9);
        check.due("address behind CALL over the end", m.channel(0, 0), 2);
        m = new Stage();
        Load.program(m, 1021, Load.CALL, 0x01, 0x00, Load.YIELD);
        Load.program(m, 0x100, Load.RET);
        m.ask(0, 1021);
        m.frame(2);
        check.due("return to the first byte", m.channel(0, 0), 0);
    }
}
