import java.util.Random;

/** Plays random runs on StageMachine and PlainMachine side by side: all their answers are equal. */
final class ModelTest {
    private static final int RUNS = 3000;
    private static final int[] WORDS = {
        0, 1, -1, 2, 3, 7, 31, 32, 63, 64, 65, 128, 255, 256, -64, -128, 1000, -1000, 32767, -32768
    };

    /** How many bytes each instruction has; that of IF is told by its operand. */
    private static final int[] LENGTHS = {4, 3, 3, 4, 3, 4, 4, 3, 3, 3, 3, 1, 4, 6, 1, 1, 4, 4, 2, 3, 3, 2, 6};

    private final Random random;
    private final StageMachine m = new StageMachine();
    private final PlainMachine plain = new PlainMachine();

    private ModelTest(long seed) {
        random = new Random(seed);
    }

    public static void main(String[] args) {
        int wrongRuns = 0;
        for (int seed = 0; seed < RUNS && wrongRuns < 3; seed++) {
            if (!new ModelTest(seed).play(seed)) {
                wrongRuns++;
            }
        }
        System.out.println(RUNS + " random runs, " + wrongRuns + " of them wrong");
        if (wrongRuns != 0) {
            System.exit(1);
        }
    }

    private boolean play(int seed) {
        loadProgram();
        loadShapes();
        for (int v = 0; v < 32; v++) {
            int n = word();
            m.set(v, n);
            plain.set(v, n);
        }
        boolean same = true;
        int frames = 1 + random.nextInt(12);
        for (int f = 0; f < frames && same; f++) {
            same = askSome();
            int cap = random.nextInt(10) == 0 ? random.nextInt(520) - 10 : 1 + random.nextInt(60);
            same &= m.frame(cap) == plain.frame(cap) && sameState();
            if (!same) {
                System.out.println("run " + seed + ": frame " + f + " with cap " + cap + " differs");
            }
        }
        return same;
    }

    private int word() {
        int kind = random.nextInt(4);
        return kind == 0 ? WORDS[random.nextInt(WORDS.length)]
            : kind == 1 ? (short) random.nextInt(65536) : random.nextInt(96) - 16;
    }

    private void write(int which, int address, int... bytes) {
        Load.write(m, which, address, bytes);
        for (int i = 0; i < bytes.length; i++) {
            plain.bytes[which][(address + i) & 1023] = bytes[i] & 255;
        }
    }

    private int place() {
        return random.nextInt(20) == 0 ? random.nextInt(65536) : 8 * random.nextInt(128);
    }

    private int operand() {
        return random.nextInt(4) == 0 ? random.nextInt(256) : random.nextInt(32);
    }

    /** Each eighth byte begins an instruction; what stands between is SHR of a variable that few use. */
    private void loadProgram() {
        for (int slot = 0; slot < 128; slot++) {
            int code = random.nextInt(60) == 0 ? random.nextInt(256) : random.nextInt(23);
            int[] bytes = new int[8];
            for (int i = 1; i < 8; i++) {
                bytes[i] = operand();
            }
            bytes[0] = code;
            int to = place();
            int jump = code == 12 ? 2 : code == 16 ? 2 : code == 22 ? 1 : code == 9 || code == 10 ? 1 : 0;
            if (code == 13) {
                jump = (bytes[1] & 0xC0) == 0x40 ? 5 : 4;
            }
            if (code == 17 && random.nextInt(8) != 0) {
                bytes[3] = random.nextInt(3);
            }
            if (jump != 0) {
                bytes[jump] = Load.high(to);
                bytes[jump + 1] = Load.low(to);
            }
            if (random.nextInt(3) != 0) {
                fillUp(bytes, code, jump);
            }
            write(0, 8 * slot, bytes);
        }
    }

    private void fillUp(int[] bytes, int code, int jump) {
        int length = code == 13 ? jump + 2 : code < LENGTHS.length ? LENGTHS[code] : 1;
        int i = length;
        for (; i + 3 <= 8; i += 3) {
            bytes[i] = Load.SHR;
            bytes[i + 1] = 30;
            bytes[i + 2] = 1;
        }
        for (; i < 8; i++) {
            bytes[i] = random.nextInt(2) == 0 ? Load.SHOW : Load.RET;
        }
    }

    private void loadShapes() {
        for (int slot = 0; slot < 16; slot++) {
            int[] bytes = new int[64];
            for (int i = 0; i < 64; i++) {
                bytes[i] = random.nextInt(6) == 0 ? random.nextInt(256) : random.nextInt(40);
            }
            int kind = random.nextInt(10);
            bytes[0] = kind < 5 ? 192 + random.nextInt(64) : kind < 9 ? 2 : random.nextInt(256);
            if (bytes[0] == 2) {
                for (int i = 4; i < 63; i += random.nextBoolean() ? 4 : 5) {
                    int to = place() & 1023;
                    bytes[i] = Load.high(to) | random.nextInt(2) << 7;
                    bytes[i + 1] = Load.low(to);
                }
            }
            write(1, 64 * slot, bytes);
        }
        for (int slot = 0; slot < 128; slot += 1 + random.nextInt(3)) {
            if (slot % 8 != 0) {
                write(1, 8 * slot, random.nextBoolean() ? 2 : 192 + random.nextInt(64));
            }
        }
    }

    /** Answers whether both machines took the same. */
    private boolean askSome() {
        boolean same = true;
        for (int i = random.nextInt(6); i >= 0; i--) {
            int k = random.nextInt(17);
            int address = random.nextInt(6) == 0 ? random.nextInt(1030) - 3 : place() & 1023;
            same &= m.ask(k, address) == plain.ask(k, address);
        }
        if (random.nextInt(4) == 0) {
            int which = random.nextInt(3);
            int at = random.nextInt(1030) - 3;
            int v = random.nextInt();
            same &= m.put(which, at, v) == plain.put(which, at, v);
        }
        return same;
    }

    private boolean sameState() {
        boolean same = true;
        for (int v = 0; v < 32; v++) {
            same &= m.get(v) == plain.variables[v];
        }
        for (int k = 0; k < 16; k++) {
            for (int what = 0; what < 5; what++) {
                same &= m.channel(k, what) == plain.channel(k, what);
            }
        }
        for (int what = 0; what < 6; what++) {
            same &= m.about(what) == plain.about(what);
        }
        for (int page = 0; page < 4; page++) {
            for (int y = 0; y < 40; y++) {
                for (int x = 0; x < 64; x++) {
                    same &= m.pixel(page, x, y) == plain.pages[page][y][x];
                }
            }
        }
        return same;
    }
}
