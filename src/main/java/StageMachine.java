import java.util.Arrays;

/**
 * Channels of a program take their turns frame by frame and draw shapes into pages of pixels.
 *
 * <p>The parts own one another as a tree, and all their rows are made once, in constructors: no
 * call makes an object.
 */
public final class StageMachine {
    public static final int NONE = -1;

    private static final int NOT_ASKED = -2;
    private static final int BYTES = 1024;
    private static final int LAST_ADDRESS = BYTES - 1;
    private static final int VARIABLES = 32;
    private static final int CHANNELS = 16;
    private static final int MOST_RETURNS = 8;
    private static final int PAGES = 4;
    private static final int WIDTH = 64;
    private static final int HEIGHT = 40;
    private static final int MOST_CAP = 500;

    private final Player player;
    private int frames = 0;
    private int instructionsDone = 0;

    public StageMachine() {
        player = new Player();
    }

    public boolean put(int which, int address, int v) {
        Bytes bytes = bytesOf(which);
        if (bytes == null || address < 0 || address > BYTES - 4) {
            return false;
        }
        for (int i = 0; i < 4; i++) {
            bytes.write(address + i, v >> (24 - 8 * i));
        }
        return true;
    }

    public int byteAt(int which, int address) {
        Bytes bytes = bytesOf(which);
        if (bytes == null || address < 0 || address > LAST_ADDRESS) {
            return NONE;
        }
        return bytes.read(address);
    }

    public boolean set(int variable, int v) {
        if (!isBelow(variable, VARIABLES)) {
            return false;
        }
        player.variables[variable] = (short) v;
        return true;
    }

    public int get(int variable) {
        return isBelow(variable, VARIABLES) ? player.variables[variable] : 0;
    }

    public boolean ask(int channel, int address) {
        if (!isBelow(channel, CHANNELS) || address < NONE || address > LAST_ADDRESS) {
            return false;
        }
        player.channels[channel].askedAddress = address;
        return true;
    }

    public int frame(int cap) {
        if (cap < 1 || cap > MOST_CAP) {
            return NONE;
        }
        frames++;
        instructionsDone = 0;
        player.painter.forgetCounts();
        for (int k = 0; k < CHANNELS; k++) {
            player.channels[k].settleAsked();
        }
        int turns = 0;
        for (int k = 0; k < CHANNELS; k++) {
            if (player.channels[k].isRunning()) {
                instructionsDone += player.takeTurn(player.channels[k], cap);
                turns++;
            }
        }
        return turns;
    }

    public int channel(int k, int what) {
        if (!isBelow(k, CHANNELS)) {
            return NONE;
        }
        Channel told = player.channels[k];
        switch (what) {
            case 0:
                return told.address;
            case 1:
                return told.paused ? 1 : 0;
            case 2:
                return told.returns;
            case 3:
                return told.latestFault;
            case 4:
                return told.askedAddress;
            default:
                return NONE;
        }
    }

    public int pixel(int page, int x, int y) {
        if (!isBelow(page, PAGES) || !isBelow(x, WIDTH) || !isBelow(y, HEIGHT)) {
            return NONE;
        }
        return player.painter.pages.colourAt(page, x, y);
    }

    public int about(int what) {
        switch (what) {
            case 0:
                return player.painter.pages.working;
            case 1:
                return player.painter.pages.shown;
            case 2:
                return frames;
            case 3:
                return instructionsDone;
            case 4:
                return player.painter.rowsInFrame;
            case 5:
                return player.painter.begunInFrame;
            default:
                return NONE;
        }
    }

    private Bytes bytesOf(int which) {
        if (which == 0) {
            return player.program;
        }
        return which == 1 ? player.painter.shapes : null;
    }

    private static boolean isBelow(int number, int bound) {
        return number >= 0 && number < bound;
    }

    /** Bytes in a ring: behind the last one stands the first. */
    private static final class Bytes {
        private final int[] bytes = new int[BYTES];

        int read(int address) {
            return bytes[address & LAST_ADDRESS];
        }

        int readPair(int address) {
            int high = bytes[address & LAST_ADDRESS];
            return high << 8 | bytes[(address + 1) & LAST_ADDRESS];
        }

        void write(int address, int v) {
            bytes[address & LAST_ADDRESS] = v & 255;
        }
    }

    /** One channel, and what is asked for it. */
    private static final class Channel {
        private final int[] pile = new int[MOST_RETURNS];
        private int returns = 0;
        private int address = NONE;
        private boolean paused = false;
        private int latestFault = 0;
        private int askedAddress = NOT_ASKED;
        private int askedPause = NOT_ASKED;

        boolean isRunning() {
            return address != NONE && !paused;
        }

        void settleAsked() {
            if (askedAddress != NOT_ASKED) {
                address = askedAddress;
                returns = 0;
                askedAddress = NOT_ASKED;
            }
            if (askedPause != NOT_ASKED) {
                paused = askedPause == 1;
                askedPause = NOT_ASKED;
            }
        }

        boolean pushReturn(int back) {
            if (returns < 0 || returns >= MOST_RETURNS) {
                return false;
            }
            pile[returns] = back;
            returns++;
            return true;
        }

        int popReturn() {
            if (returns < 1 || returns > MOST_RETURNS) {
                return NONE;
            }
            returns--;
            return pile[returns];
        }
    }

    /** Does the instructions of the program, one turn of a channel at a time. */
    private static final class Player {
        private static final int SET = 0;
        private static final int MOVE = 1;
        private static final int ADD = 2;
        private static final int ADDK = 3;
        private static final int SUB = 4;
        private static final int AND = 5;
        private static final int OR = 6;
        private static final int SHL = 7;
        private static final int SHR = 8;
        private static final int JUMP = 9;
        private static final int CALL = 10;
        private static final int RET = 11;
        private static final int LOOP = 12;
        private static final int IF = 13;
        private static final int YIELD = 14;
        private static final int KILL = 15;
        private static final int START = 16;
        private static final int EACH = 17;
        private static final int PAGE = 18;
        private static final int FILL = 19;
        private static final int COPY = 20;
        private static final int SHOW = 21;
        private static final int DRAW = 22;

        private static final int EQUAL = 0;
        private static final int NOT_EQUAL = 1;
        private static final int ABOVE = 2;
        private static final int NOT_BELOW = 3;
        private static final int BELOW = 4;
        private static final int NOT_ABOVE = 5;

        private static final int ASK_END = 2;

        private static final int PILE_IS_FULL = 1;
        private static final int PILE_IS_EMPTY = 2;
        private static final int NO_SUCH_COMPARISON = 3;
        private static final int NO_SUCH_ASKING = 4;
        private static final int NO_SUCH_INSTRUCTION = 5;

        private static final int PLAIN_ZOOM = 64;

        private final Bytes program = new Bytes();
        private final int[] variables = new int[VARIABLES];
        private final Channel[] channels = new Channel[CHANNELS];
        private final Painter painter = new Painter();
        private int at = NONE;
        private boolean goingOn = false;

        Player() {
            for (int k = 0; k < CHANNELS; k++) {
                channels[k] = new Channel();
            }
        }

        /** Answers how many instructions were done. */
        int takeTurn(Channel own, int cap) {
            at = own.address;
            goingOn = true;
            int done = 0;
            for (int n = 0; n < cap && goingOn; n++) {
                doInstruction(own);
                done++;
            }
            own.address = at;
            return done;
        }

        private void doInstruction(Channel own) {
            int code = nextByte();
            if (code <= SHR) {
                compute(code);
                return;
            }
            switch (code) {
                case JUMP:
                    at = nextAddress();
                    break;
                case CALL:
                    callAddress(own);
                    break;
                case RET:
                    comeBack(own);
                    break;
                case LOOP:
                    loop();
                    break;
                case IF:
                    jumpIf(own);
                    break;
                case YIELD:
                    goingOn = false;
                    break;
                case KILL:
                    end();
                    break;
                case START:
                    startOther();
                    break;
                case EACH:
                    askOfEach(own);
                    break;
                case PAGE:
                case FILL:
                case COPY:
                case SHOW:
                    handlePages(code);
                    break;
                case DRAW:
                    draw();
                    break;
                default:
                    fail(own, NO_SUCH_INSTRUCTION);
                    break;
            }
        }

        private void compute(int code) {
            int v = nextVariable();
            switch (code) {
                case SET:
                    store(v, nextNumber());
                    break;
                case MOVE:
                    store(v, variables[nextVariable()]);
                    break;
                case ADD:
                    store(v, variables[v] + variables[nextVariable()]);
                    break;
                case ADDK:
                    store(v, variables[v] + nextNumber());
                    break;
                case SUB:
                    store(v, variables[v] - variables[nextVariable()]);
                    break;
                case AND:
                    store(v, variables[v] & nextNumber());
                    break;
                case OR:
                    store(v, variables[v] | nextNumber());
                    break;
                case SHL:
                    store(v, variables[v] << (nextByte() & 15));
                    break;
                default:
                    store(v, variables[v] >> (nextByte() & 15));
                    break;
            }
        }

        private void callAddress(Channel own) {
            int target = nextAddress();
            if (own.pushReturn(at)) {
                at = target;
            } else {
                fail(own, PILE_IS_FULL);
            }
        }

        private void comeBack(Channel own) {
            int back = own.popReturn();
            if (back == NONE) {
                fail(own, PILE_IS_EMPTY);
            } else {
                at = back;
            }
        }

        private void loop() {
            int v = nextVariable();
            int target = nextAddress();
            store(v, variables[v] - 1);
            if (variables[v] != 0) {
                at = target;
            }
        }

        private void jumpIf(Channel own) {
            int kind = nextByte();
            int left = variables[nextVariable()];
            int right = nextCompared(kind);
            int how = kind & 7;
            if (how > NOT_ABOVE) {
                fail(own, NO_SUCH_COMPARISON);
                return;
            }
            int target = nextAddress();
            if (compares(how, left, right)) {
                at = target;
            }
        }

        private int nextCompared(int kind) {
            if ((kind & 128) != 0) {
                return variables[nextVariable()];
            }
            return (kind & 64) != 0 ? nextNumber() : nextByte();
        }

        private static boolean compares(int how, int left, int right) {
            switch (how) {
                case EQUAL:
                    return left == right;
                case NOT_EQUAL:
                    return left != right;
                case ABOVE:
                    return left > right;
                case NOT_BELOW:
                    return left >= right;
                case BELOW:
                    return left < right;
                default:
                    return left <= right;
            }
        }

        private void startOther() {
            int k = nextByte() & 15;
            channels[k].askedAddress = nextAddress();
        }

        private void askOfEach(Channel own) {
            int first = nextByte() & 15;
            int last = nextByte() & 15;
            int asking = nextByte();
            if (asking > ASK_END) {
                fail(own, NO_SUCH_ASKING);
                return;
            }
            for (int k = first; k <= last; k++) {
                if (asking == ASK_END) {
                    channels[k].askedAddress = NONE;
                } else {
                    channels[k].askedPause = asking;
                }
            }
        }

        private void handlePages(int code) {
            Pages pages = painter.pages;
            int page = pages.pageOf(nextByte());
            switch (code) {
                case PAGE:
                    pages.working = page;
                    break;
                case FILL:
                    pages.fill(page, nextByte() & 15);
                    break;
                case COPY:
                    pages.copy(page, pages.pageOf(nextByte()));
                    break;
                default:
                    pages.shown = page;
                    break;
            }
        }

        private void draw() {
            int shape = nextAddress();
            int x = variables[nextVariable()];
            int y = variables[nextVariable()];
            int z = nextByte();
            int zoom = z < 128 ? variables[z & 31] : PLAIN_ZOOM;
            painter.begunInDraw = 0;
            painter.drawShape(shape, x, y, zoom, NONE, 0);
        }

        private void fail(Channel own, int fault) {
            own.latestFault = fault;
            end();
        }

        private void end() {
            at = NONE;
            goingOn = false;
        }

        private void store(int v, int result) {
            variables[v] = (short) result;
        }

        private int nextByte() {
            int next = program.read(at);
            at = (at + 1) & LAST_ADDRESS;
            return next;
        }

        private int nextPair() {
            int next = program.readPair(at);
            at = (at + 2) & LAST_ADDRESS;
            return next;
        }

        private int nextVariable() {
            return nextByte() & 31;
        }

        private int nextNumber() {
            return (short) nextPair();
        }

        private int nextAddress() {
            return nextPair() & LAST_ADDRESS;
        }
    }

    /** Draws shapes into the working page and counts what it drew. */
    private static final class Painter {
        private static final int FIRST_POLYGON = 192;
        private static final int GROUP = 2;
        private static final int MOST_GROUPS_AROUND = 4;
        private static final int MOST_BEGUN = 200;
        private static final int MOST_PAIRS = 16;
        private static final int OWN_COLOUR = 0x8000;
        private static final long ONE = 65536L;

        private final Bytes shapes = new Bytes();
        private final Pages pages = new Pages();
        private final int[] rightXs = new int[MOST_PAIRS];
        private final int[] leftXs = new int[MOST_PAIRS];
        private final int[] pairYs = new int[MOST_PAIRS];
        private int begunInDraw = 0;
        private int begunInFrame = 0;
        private int rowsInFrame = 0;

        void forgetCounts() {
            begunInFrame = 0;
            rowsInFrame = 0;
        }

        /** A given colour of NONE leaves polygons their own; around is how many groups it is in. */
        private void drawShape(int address, int x, int y, int zoom, int given, int around) {
            if (begunInDraw >= MOST_BEGUN) {
                return;
            }
            begunInDraw++;
            begunInFrame++;
            int type = shapes.read(address);
            if (type >= FIRST_POLYGON) {
                placePairs(address, x, y, zoom);
                drawPolygon(shapes.read(address + 3) & 15, given == NONE ? type & 15 : given);
            } else if (type == GROUP && around <= MOST_GROUPS_AROUND) {
                drawGroup(address, x, y, zoom, given, around);
            }
        }

        private void drawGroup(int address, int x, int y, int zoom, int given, int around) {
            int groupX = x - scaled(shapes.read(address + 1), zoom);
            int groupY = y - scaled(shapes.read(address + 2), zoom);
            int parts = shapes.read(address + 3) & 15;
            int at = address + 4;
            for (int i = 0; i < parts; i++) {
                int part = shapes.readPair(at);
                int partX = groupX + scaled(shapes.read(at + 2), zoom);
                int partY = groupY + scaled(shapes.read(at + 3), zoom);
                boolean coloured = (part & OWN_COLOUR) != 0;
                int colour = coloured ? shapes.read(at + 4) & 15 : given;
                drawShape(part & LAST_ADDRESS, partX, partY, zoom, colour, around + 1);
                at += coloured ? 5 : 4;
            }
        }

        private void placePairs(int address, int x, int y, int zoom) {
            int boxX = x - Math.floorDiv(scaled(shapes.read(address + 1), zoom), 2);
            int boxY = y - Math.floorDiv(scaled(shapes.read(address + 2), zoom), 2);
            int pairs = shapes.read(address + 3) & 15;
            int at = address + 4;
            for (int i = 0; i < pairs; i++) {
                rightXs[i] = boxX + scaled(shapes.read(at + 2 * i), zoom);
                pairYs[i] = boxY + scaled(shapes.read(at + 2 * i + 1), zoom);
                leftXs[i] = boxX + scaled(shapes.read(at + 2 * pairs + i), zoom);
            }
        }

        private void drawPolygon(int pairs, int colour) {
            for (int i = 0; i + 1 < pairs; i++) {
                int rows = pairYs[i + 1] - pairYs[i];
                if (rows > 0) {
                    drawRows(i, rows, colour);
                }
            }
        }

        private void drawRows(int i, int rows, int colour) {
            int top = pairYs[i];
            long leftStep = Math.floorDiv(ONE * (leftXs[i + 1] - leftXs[i]), (long) rows);
            long rightStep = Math.floorDiv(ONE * (rightXs[i + 1] - rightXs[i]), (long) rows);
            // A great zoom makes very many rows: only those on the page are gone through.
            int first = Math.max(0, -top);
            int end = Math.min(rows, HEIGHT - top);
            for (int j = first; j < end; j++) {
                int from = Math.max(edgeAt(leftXs[i], leftStep, j), 0);
                int to = Math.min(edgeAt(rightXs[i], rightStep, j), WIDTH - 1);
                if (from <= to) {
                    int row = pages.startOfRow(top + j);
                    Arrays.fill(pages.pixels, row + from, row + to + 1, (byte) colour);
                    rowsInFrame++;
                }
            }
        }

        private static int edgeAt(int start, long step, int j) {
            // The shift rounds down, as DIV does.
            return (int) ((ONE * start + ONE / 2 + j * step) >> 16);
        }

        private static int scaled(int length, int zoom) {
            return Math.floorDiv(length * zoom, 64);
        }
    }

    /** The pages, one behind the other in a single row of pixels. */
    private static final class Pages {
        private static final int PAGE_SIZE = WIDTH * HEIGHT;
        private static final int SHOWN = 254;

        private final byte[] pixels = new byte[PAGES * PAGE_SIZE];
        private int working = 0;
        private int shown = 0;

        int pageOf(int operand) {
            if (operand < 128) {
                return operand & 3;
            }
            return operand == SHOWN ? shown : working;
        }

        int colourAt(int page, int x, int y) {
            return pixels[page * PAGE_SIZE + y * WIDTH + x];
        }

        void fill(int page, int colour) {
            int start = page * PAGE_SIZE;
            Arrays.fill(pixels, start, start + PAGE_SIZE, (byte) colour);
        }

        void copy(int to, int from) {
            System.arraycopy(pixels, from * PAGE_SIZE, pixels, to * PAGE_SIZE, PAGE_SIZE);
        }

        /** Row y of the working page, which must be on it. */
        int startOfRow(int y) {
            return working * PAGE_SIZE + y * WIDTH;
        }
    }
}
