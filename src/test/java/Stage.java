import java.util.ArrayList;
import java.util.List;

/**
 * A StageMachine that a test may ask as often as it likes, though an object is used for 512 calls
 * alone: behind the 512th, the calls that change something are done again on a new object.
 */
final class Stage {
    static final int MOST_CALLS = 512;
    private static final int PUT = 0, SET = 1, ASK = 2, FRAME = 3;

    private final List<int[]> changes = new ArrayList<>();
    private final int[][] bytes = new int[2][1024];
    private StageMachine machine = new StageMachine();
    private int calls = 0;

    boolean put(int which, int address, int v) {
        boolean taken = change(PUT, which, address, v) == 1;
        for (int i = 0; taken && i < 4; i++) {
            bytes[which][address + i] = v >>> (24 - 8 * i) & 255;
        }
        return taken;
    }

    boolean set(int variable, int v) {
        return change(SET, variable, v) == 1;
    }

    boolean ask(int channel, int address) {
        return change(ASK, channel, address) == 1;
    }

    int frame(int cap) {
        return change(FRAME, cap);
    }

    int byteAt(int which, int address) {
        return asked().byteAt(which, address);
    }

    int get(int variable) {
        return asked().get(variable);
    }

    int channel(int k, int what) {
        return asked().channel(k, what);
    }

    int pixel(int page, int x, int y) {
        return asked().pixel(page, x, y);
    }

    int about(int what) {
        return asked().about(what);
    }

    /** Goes on at 0 behind 1023, and leaves all other bytes as they are: one call for each four bytes. */
    void write(int which, int address, int... values) {
        int first = address & 3;
        for (int i = -first; i < values.length; i += 4) {
            int base = (address + i) & 1023;
            int word = 0;
            for (int k = 0; k < 4; k++) {
                boolean meant = i + k >= 0 && i + k < values.length;
                word = word << 8 | (meant ? values[i + k] & 255 : bytes[which][base + k]);
            }
            if (!put(which, base, word)) {
                throw new IllegalStateException("put refused " + base);
            }
        }
    }

    private int change(int... change) {
        StageMachine to = asked();
        changes.add(change);
        return done(to, change);
    }

    private StageMachine asked() {
        if (calls == MOST_CALLS) {
            doAgain();
        }
        calls++;
        return machine;
    }

    private void doAgain() {
        if (changes.size() >= MOST_CALLS) {
            throw new IllegalStateException("a test may change an object by 511 calls at most");
        }
        machine = new StageMachine();
        for (int[] change : changes) {
            done(machine, change);
        }
        calls = changes.size();
    }

    private static int done(StageMachine to, int[] change) {
        switch (change[0]) {
            case PUT:
                return to.put(change[1], change[2], change[3]) ? 1 : 0;
            case SET:
                return to.set(change[1], change[2]) ? 1 : 0;
            case ASK:
                return to.ask(change[1], change[2]) ? 1 : 0;
            default:
                return to.frame(change[1]);
        }
    }
}
