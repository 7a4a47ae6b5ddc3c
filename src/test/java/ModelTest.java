import java.util.Random;

/**
 * Plays random runs, of 512 calls at most, on StageMachine and PlainMachine side by side: all their
 * answers are equal.
 */
final class ModelTest {
    private static final int RUNS = 20000;
    private static final int MOST_FRAMES = 8;
    private static final int PROGRAM_SLOTS = 80;
    private static final int SHAPE_SLOTS = 8;
    private static final int MOST_CALLS_BETWEEN_FRAMES = 5;
    private static final int[] WORDS = {
        0, 1, -1, 2, 3, 7, 31, 32, 63, 64, 65, 128, 255, 256, -64, -128, 1000, -1000, 32767, -32768
    };

    /** How many bytes each instruction has; that of IF is told by its operand. */
    private static final int[] LENGTHS = {4, 3, 3, 4, 3, 4, 4, 3, 3, 3, 3, 1, 4, 6, 1, 1, 4, 4, 2, 3, 3, 2, 6};

    private final Random random;
    private final int programBase;
    private final int shapesBase;
    private final StageMachine m = new StageMachine();
    private final PlainMachine plain = new PlainMachine();
    private int calls = 0;
    private boolean same = true;
    private String firstWrong = "";

    private ModelTest(long seed) {
        random = new Random(seed);
        programBase = 8 * random.nextInt(128);
        shapesBase = 64 * random.nextInt(16);
    }

    public static void main(String[] args) {
        int wrongRuns = 0;
        for (int seed = 0; seed < RUNS && wrongRuns < 3; seed++) {
            if (!new ModelTest(seed).play(seed)) {
                wrongRuns++;
            }
        }
        System.out.println(RUNS + " random runs, " + wrongRuns + " of them wrong");
        if (wrongRuns != 0) {
            System.exit(1);
        }
    }

    private boolean play(int seed) {
        loadProgram();
        loadShapes();
        for (int v = 0; v < 32; v++) {
            int n = word();
            due("set(" + v + ", " + n + ")", m.set(v, n) ? 1 : 0, plain.set(v, n) ? 1 : 0);
        }
        int frames = 1 + random.nextInt(MOST_FRAMES);
        int asides = (Stage.MOST_CALLS - calls) / frames - MOST_CALLS_BETWEEN_FRAMES - 1;
        for (int f = 0; f < frames && same; f++) {
            askSome();
            int cap = random.nextInt(10) == 0 ? random.nextInt(520) - 10 : 1 + random.nextInt(60);
            due("frame(" + cap + ")", m.frame(cap), plain.frame(cap));
            for (int i = 0; i < asides && same; i++) {
                lookSomewhere(i);
            }
        }
        if (calls > Stage.MOST_CALLS) {
            throw new IllegalStateException("a run of " + calls + " calls");
        }
        if (!same) {
            System.out.println("run " + seed + ": " + firstWrong);
        }
        return same;
    }

    /** Counts a call, and keeps the first one whose answers differ. */
    private void due(String call, int got, int want) {
        calls++;
        if (same && got != want) {
            same = false;
            firstWrong = "call " + calls + ", " + call + ", answered " + got + ", due is " + want;
        }
    }

    private int word() {
        int kind = random.nextInt(4);
        return kind == 0 ? WORDS[random.nextInt(WORDS.length)]
            : kind == 1 ? (short) random.nextInt(65536) : random.nextInt(96) - 16;
    }

    private void write(int which, int address, int[] bytes) {
        for (int i = 0; i < bytes.length; i += 4) {
            int word = 0;
            for (int k = 0; k < 4; k++) {
                word = word << 8 | bytes[i + k] & 255;
            }
            put(which, (address + i) & 1023, word);
        }
    }

    private void put(int which, int address, int v) {
        due("put(" + which + ", " + address + ", " + v + ")",
            m.put(which, address, v) ? 1 : 0, plain.put(which, address, v) ? 1 : 0);
    }

    private int programPlace() {
        return random.nextInt(20) == 0 ? random.nextInt(65536)
            : (programBase + 8 * random.nextInt(PROGRAM_SLOTS)) & 1023;
    }

    private int shapePlace() {
        return random.nextInt(20) == 0 ? random.nextInt(65536)
            : (shapesBase + 8 * random.nextInt(8 * SHAPE_SLOTS)) & 1023;
    }

    private int operand() {
        return random.nextInt(4) == 0 ? random.nextInt(256) : random.nextInt(32);
    }

    /** Each eighth byte begins an instruction; what stands between is SHR of a variable that few use. */
    private void loadProgram() {
        for (int slot = 0; slot < PROGRAM_SLOTS; slot++) {
            int code = random.nextInt(60) == 0 ? random.nextInt(256) : random.nextInt(23);
            int[] bytes = new int[8];
            for (int i = 1; i < 8; i++) {
                bytes[i] = operand();
            }
            bytes[0] = code;
            int to = code == 22 ? shapePlace() : programPlace();
            int jump = code == 12 ? 2 : code == 16 ? 2 : code == 22 ? 1 : code == 9 || code == 10 ? 1 : 0;
            if (code == 13) {
                jump = (bytes[1] & 0xC0) == 0x40 ? 5 : 4;
            }
            if (code == 17 && random.nextInt(8) != 0) {
                bytes[3] = random.nextInt(3);
            }
            if (jump != 0) {
                bytes[jump] = Load.high(to);
                bytes[jump + 1] = Load.low(to);
            }
            if (random.nextInt(3) != 0) {
                fillUp(bytes, code, jump);
            }
            write(0, programBase + 8 * slot, bytes);
        }
    }

    private void fillUp(int[] bytes, int code, int jump) {
        int length = code == 13 ? jump + 2 : code < LENGTHS.length ? LENGTHS[code] : 1;
        int i = length;
        for (; i + 3 <= 8; i += 3) {
            bytes[i] = Load.SHR;
            bytes[i + 1] = 30;
            bytes[i + 2] = 1;
        }
        for (; i < 8; i++) {
            bytes[i] = random.nextInt(2) == 0 ? Load.SHOW : Load.RET;
        }
    }

    private void loadShapes() {
        for (int slot = 0; slot < SHAPE_SLOTS; slot++) {
            int[] bytes = new int[64];
            for (int i = 0; i < 64; i++) {
                bytes[i] = random.nextInt(6) == 0 ? random.nextInt(256) : random.nextInt(40);
            }
            int kind = random.nextInt(10);
            bytes[0] = kind < 5 ? 192 + random.nextInt(64) : kind < 9 ? 2 : random.nextInt(256);
            if (bytes[0] == 2) {
                for (int i = 4; i < 63; i += random.nextBoolean() ? 4 : 5) {
                    int to = shapePlace() & 1023;
                    bytes[i] = Load.high(to) | random.nextInt(2) << 7;
                    bytes[i + 1] = Load.low(to);
                }
            }
            for (int inner = 8; inner < 64; inner += 8 * (1 + random.nextInt(3))) {
                bytes[inner] = random.nextBoolean() ? 2 : 192 + random.nextInt(64);
            }
            write(1, shapesBase + 64 * slot, bytes);
        }
    }

    private void askSome() {
        for (int i = random.nextInt(MOST_CALLS_BETWEEN_FRAMES - 1); i >= 0; i--) {
            int k = random.nextInt(17);
            int address = random.nextInt(6) == 0 ? random.nextInt(1030) - 3 : programPlace() & 1023;
            due("ask(" + k + ", " + address + ")", m.ask(k, address) ? 1 : 0, plain.ask(k, address) ? 1 : 0);
        }
        if (random.nextInt(4) == 0) {
            put(random.nextInt(3), random.nextInt(1030) - 3, random.nextInt());
        }
    }

    /** All that about tells first, and then whatever comes. */
    private void lookSomewhere(int turn) {
        int kind = random.nextInt(8);
        if (turn < 6) {
            due("about(" + turn + ")", m.about(turn), plain.about(turn));
        } else if (kind == 0) {
            int v = random.nextInt(32);
            due("get(" + v + ")", m.get(v), plain.variables[v]);
        } else if (kind == 1) {
            int which = random.nextInt(2);
            int address = random.nextInt(1024);
            due("byteAt(" + which + ", " + address + ")", m.byteAt(which, address), plain.bytes[which][address]);
        } else if (kind < 4) {
            int k = random.nextInt(16);
            int what = random.nextInt(5);
            due("channel(" + k + ", " + what + ")", m.channel(k, what), plain.channel(k, what));
        } else {
            lookAtPixel();
        }
    }

    /** Likes pixels at the edge of something drawn: slips show there first. */
    private void lookAtPixel() {
        int page = random.nextInt(3) == 0 ? random.nextInt(4) : plain.working;
        int x = 0;
        int y = 0;
        boolean atEdge = false;
        for (int tries = 0; tries < 40 && !atEdge; tries++) {
            x = random.nextInt(64);
            y = random.nextInt(40);
            int[][] pixels = plain.pages[page];
            atEdge = x > 0 && pixels[y][x] != pixels[y][x - 1] || y > 0 && pixels[y][x] != pixels[y - 1][x]
                || x < 63 && pixels[y][x] != pixels[y][x + 1] || y < 39 && pixels[y][x] != pixels[y + 1][x];
        }
        due("pixel(" + page + ", " + x + ", " + y + ")", m.pixel(page, x, y), plain.pages[page][y][x]);
    }
}
