import java.util.ArrayDeque;
import java.util.ArrayList;
import java.util.Arrays;
import java.util.Deque;
import java.util.List;

/** The document once more, written for slow and sure play in ModelTest and in no hurry anywhere. */
final class PlainMachine {
    /** The operands of each instruction: IF reads its own. */
    private static final String[] OPERANDS = {
        "vs", "vw", "vw", "vs", "vw", "vs", "vs", "vk", "vk",
        "a", "a", "", "va", "",
        "", "", "ka", "kkk",
        "p", "pk", "pp", "p", "avwk"
    };

    final int[][] bytes = new int[2][1024];
    final int[] variables = new int[32];
    final int[][][] pages = new int[4][40][64];
    final Integer[] address = new Integer[16];
    final boolean[] paused = new boolean[16];
    final List<Deque<Integer>> piles = new ArrayList<>();
    final int[] faults = new int[16];
    final Integer[] askedAddress = new Integer[16];
    final Boolean[] askedPause = new Boolean[16];
    int working, shown, frames, instructions, rows, shapes;
    private int pc;
    private int begun;

    PlainMachine() {
        for (int k = 0; k < 16; k++) {
            piles.add(new ArrayDeque<>());
        }
    }

    private static long div(long a, long b) {
        long q = a / b;
        return q * b > a ? q - 1 : q;
    }

    private static int wrap(int n) {
        int low = n & 0xFFFF;
        return low > 32767 ? low - 65536 : low;
    }

    int frame(int cap) {
        if (cap < 1 || cap > 500) {
            return -1;
        }
        frames++;
        instructions = 0;
        rows = 0;
        shapes = 0;
        for (int k = 0; k < 16; k++) {
            if (askedAddress[k] != null) {
                address[k] = askedAddress[k] < 0 ? null : askedAddress[k];
                piles.get(k).clear();
            }
            if (askedPause[k] != null) {
                paused[k] = askedPause[k];
            }
        }
        Arrays.fill(askedAddress, null);
        Arrays.fill(askedPause, null);
        int turns = 0;
        for (int k = 0; k < 16; k++) {
            if (address[k] != null && !paused[k]) {
                turns++;
                turn(k, cap);
            }
        }
        return turns;
    }

    private void turn(int k, int cap) {
        pc = address[k];
        for (int n = 0; n < cap; n++) {
            instructions++;
            String end = instruction(k);
            if (end.startsWith("fault")) {
                faults[k] = end.charAt(5) - '0';
            }
            if (end.startsWith("fault") || end.equals("kill")) {
                address[k] = null;
                return;
            }
            if (end.equals("yield")) {
                break;
            }
        }
        address[k] = pc;
    }

    private int fetch() {
        int b = bytes[0][pc];
        pc = (pc + 1) % 1024;
        return b;
    }

    private int operand(char kind) {
        switch (kind) {
            case 'v': case 'w':
                return fetch() % 32;
            case 'k':
                return fetch();
            case 's':
                return wrap(fetch() * 256 + fetch());
            case 'a':
                return (fetch() * 256 + fetch()) % 1024;
            case 'p':
                int b = fetch();
                return b < 128 ? b % 4 : b == 254 ? shown : working;
            default:
                throw new IllegalArgumentException();
        }
    }

    private String instruction(int own) {
        int code = fetch();
        if (code >= OPERANDS.length) {
            return "fault5";
        }
        if (code == 13) {
            return compare();
        }
        int[] o = new int[4];
        for (int i = 0; i < OPERANDS[code].length(); i++) {
            o[i] = operand(OPERANDS[code].charAt(i));
        }
        if (code <= 8) {
            variables[o[0]] = wrap(computed(code, variables[o[0]], o[1]));
            return "";
        }
        return code <= 12 ? jump(code, own, o) : other(code, o);
    }

    private int computed(int code, int v, int second) {
        switch (code) {
            case 0: return second;
            case 1: return variables[second];
            case 2: return v + variables[second];
            case 3: return v + second;
            case 4: return v - variables[second];
            case 5: return v & second;
            case 6: return v | second;
            case 7: return v * (1 << second % 16);
            default: return (int) div(v, 1 << second % 16);
        }
    }

    private String jump(int code, int own, int[] o) {
        Deque<Integer> pile = piles.get(own);
        if (code == 10) {
            if (pile.size() == 8) {
                return "fault1";
            }
            pile.push(pc);
        }
        if (code == 11) {
            if (pile.isEmpty()) {
                return "fault2";
            }
            pc = pile.pop();
        } else if (code == 12) {
            variables[o[0]] = wrap(variables[o[0]] - 1);
            pc = variables[o[0]] == 0 ? pc : o[1];
        } else {
            pc = o[0];
        }
        return "";
    }

    private String compare() {
        int k = operand('k');
        int v = variables[operand('v')];
        int x = k >= 128 ? variables[operand('v')] : k / 64 % 2 == 1 ? operand('s') : operand('k');
        if (k % 8 > 5) {
            return "fault3";
        }
        int a = operand('a');
        boolean[] holds = {v == x, v != x, v > x, v >= x, v < x, v <= x};
        if (holds[k % 8]) {
            pc = a;
        }
        return "";
    }

    private String other(int code, int[] o) {
        switch (code) {
            case 14:
                return "yield";
            case 15:
                return "kill";
            case 16:
                askedAddress[o[0] % 16] = o[1];
                return "";
            case 17:
                return each(o[0] % 16, o[1] % 16, o[2]);
            case 18:
                working = o[0];
                return "";
            case 19:
                for (int[] row : pages[o[0]]) {
                    Arrays.fill(row, o[1] % 16);
                }
                return "";
            case 20:
                for (int y = 0; y < 40; y++) {
                    pages[o[0]][y] = pages[o[1]][y].clone();
                }
                return "";
            case 21:
                shown = o[0];
                return "";
            default:
                begun = 0;
                shape(o[0], variables[o[1]], variables[o[2]], o[3] < 128 ? variables[o[3] % 32] : 64, null, 0);
                shapes += begun;
                return "";
        }
    }

    private String each(int k, int l, int m) {
        if (m > 2) {
            return "fault4";
        }
        for (; k <= l; k++) {
            if (m == 2) {
                askedAddress[k] = -1;
            } else {
                askedPause[k] = m == 1;
            }
        }
        return "";
    }

    private int at(int a) {
        return bytes[1][a % 1024];
    }

    private void shape(int a, long x, long y, long zoom, Integer given, int within) {
        if (begun == 200) {
            return;
        }
        begun++;
        int t = at(a);
        if (t >= 192) {
            polygon(a, x, y, zoom, given == null ? t % 16 : given);
        }
        if (t != 2 || within == 5) {
            return;
        }
        long baseX = x - div(at(a + 1) * zoom, 64);
        long baseY = y - div(at(a + 2) * zoom, 64);
        int next = a + 4;
        for (int left = at(a + 3) % 16; left > 0; left--) {
            int part = at(next) * 256 + at(next + 1);
            long px = baseX + div(at(next + 2) * zoom, 64);
            long py = baseY + div(at(next + 3) * zoom, 64);
            next += 4;
            Integer colour = given;
            if (part >= 32768) {
                colour = at(next) % 16;
                next++;
            }
            shape(part % 1024, px, py, zoom, colour, within + 1);
        }
    }

    private void polygon(int a, long x, long y, long zoom, int colour) {
        long boxX = x - div(div(at(a + 1) * zoom, 64), 2);
        long boxY = y - div(div(at(a + 2) * zoom, 64), 2);
        int n = at(a + 3) % 16;
        long[] r = new long[n];
        long[] h = new long[n];
        long[] l = new long[n];
        for (int i = 0; i < n; i++) {
            r[i] = boxX + div(at(a + 4 + 2 * i) * zoom, 64);
            h[i] = boxY + div(at(a + 5 + 2 * i) * zoom, 64);
            l[i] = boxX + div(at(a + 4 + 2 * n + i) * zoom, 64);
        }
        for (int i = 0; i < n - 1; i++) {
            for (int row = 0; row < 40; row++) {
                long height = h[i + 1] - h[i];
                long j = row - h[i];
                if (j >= 0 && j < height) {
                    long from = div(65536 * l[i] + 32768 + j * div(65536 * (l[i + 1] - l[i]), height), 65536);
                    long to = div(65536 * r[i] + 32768 + j * div(65536 * (r[i + 1] - r[i]), height), 65536);
                    rows += colourRow(pages[working][row], from, to, colour);
                }
            }
        }
    }

    private static int colourRow(int[] row, long from, long to, int colour) {
        int got = 0;
        for (int x = 0; x < 64; x++) {
            if (from <= x && x <= to) {
                row[x] = colour;
                got = 1;
            }
        }
        return got;
    }

    boolean put(int which, int at, int v) {
        if (which < 0 || which > 1 || at < 0 || at > 1020) {
            return false;
        }
        for (int i = 0; i < 4; i++) {
            bytes[which][at + i] = v >>> (24 - 8 * i) & 255;
        }
        return true;
    }

    boolean set(int variable, int v) {
        if (variable < 0 || variable > 31) {
            return false;
        }
        variables[variable] = wrap(v);
        return true;
    }

    boolean ask(int k, int a) {
        if (k < 0 || k > 15 || a < -1 || a > 1023) {
            return false;
        }
        askedAddress[k] = a;
        return true;
    }

    int channel(int k, int what) {
        int[] all = {
            address[k] == null ? -1 : address[k], paused[k] ? 1 : 0, piles.get(k).size(), faults[k],
            askedAddress[k] == null ? -2 : askedAddress[k]
        };
        return all[what];
    }

    int about(int what) {
        int[] all = {working, shown, frames, instructions, rows, shapes};
        return all[what];
    }
}
