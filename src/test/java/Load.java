/** Makes programs and shapes for tests. */
final class Load {
    static final int SET = 0, MOVE = 1, ADD = 2, ADDK = 3, SUB = 4, AND = 5, OR = 6, SHL = 7, SHR = 8;
    static final int JUMP = 9, CALL = 10, RET = 11, LOOP = 12, IF = 13, YIELD = 14, KILL = 15;
    static final int START = 16, EACH = 17, PAGE = 18, FILL = 19, COPY = 20, SHOW = 21, DRAW = 22;
    static final int[] EXTREMES = {
        Integer.MIN_VALUE, Integer.MIN_VALUE + 1, -65536, -32769, -1025, -3, -2, -1, 0, 1, 2, 3, 4, 5, 6,
        15, 16, 31, 32, 39, 40, 63, 64, 499, 500, 501, 1020, 1021, 1023, 1024, 65536,
        Integer.MAX_VALUE - 1, Integer.MAX_VALUE
    };

    private Load() {
    }

    static void program(Stage m, int address, int... bytes) {
        m.write(0, address, bytes);
    }

    static void shapes(Stage m, int address, int... bytes) {
        m.write(1, address, bytes);
    }

    /** A new object, with a program at 0 for channel 0 that has had one frame with the greatest cap. */
    static Stage ran(int... bytes) {
        return run(new Stage(), bytes);
    }

    static Stage run(Stage m, int... bytes) {
        program(m, 0, bytes);
        m.ask(0, 0);
        m.frame(500);
        return m;
    }

    static int high(int number) {
        return number >> 8 & 255;
    }

    static int low(int number) {
        return number & 255;
    }
}
