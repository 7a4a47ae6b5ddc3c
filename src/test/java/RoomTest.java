import com.sun.management.ThreadMXBean;
import java.lang.management.ManagementFactory;

/** A run of the dearest calls ends, throws nothing, and makes no objects beyond those of the constructor. */
final class RoomTest {
    private static final long MOST_BYTES_OF_CALLS = 64 * 1024;
    private static final long MOST_BYTES_OF_OBJECT = 128 * 1024;

    public static void main(String[] args) {
        Check check = new Check();
        dearestRun(200);
        ThreadMXBean threads = (ThreadMXBean) ManagementFactory.getThreadMXBean();
        long thread = Thread.currentThread().getId();
        long before = threads.getThreadAllocatedBytes(thread);
        StageMachine m = new StageMachine();
        long made = threads.getThreadAllocatedBytes(thread);
        dearestCalls(m, 512);
        long after = threads.getThreadAllocatedBytes(thread);
        check.due("an object of " + (made - before) + " bytes is small", made - before <= MOST_BYTES_OF_OBJECT, true);
        check.due("calls made " + (after - made) + " bytes", after - made <= MOST_BYTES_OF_CALLS, true);
        greatestFrame(check);
        check.finish();
    }

    private static void dearestRun(int calls) {
        dearestCalls(new StageMachine(), calls);
    }

    /** The program is DRAW of a group that holds itself fifteen times, CALL and so on, in all channels. */
    private static void dearestCalls(StageMachine m, int calls) {
        m.put(1, 0, 0x0201010F);
        m.put(0, 0, 0x16000001);
        m.put(0, 4, 0x01FF1400);
        m.put(0, 8, 0x0113010A);
        m.put(0, 12, 0x0A000011);
        m.put(0, 16, 0x00110001);
        for (int call = 6; call < calls; call++) {
            oneCall(m, call);
        }
    }

    private static void oneCall(StageMachine m, int call) {
        switch (call % 13) {
            case 0: case 1: case 2: case 3:
                m.ask(call % 16, 0);
                break;
            case 4: case 5: case 6:
                m.frame(6);
                break;
            case 7:
                m.pixel(call % 4, call % 64, call % 40);
                break;
            case 8:
                m.channel(call % 16, call % 5);
                break;
            case 9:
                m.about(call % 6);
                break;
            case 10:
                m.byteAt(call % 3, call);
                break;
            case 11:
                m.set(call % 33, call);
                break;
            default:
                m.get(call % 33);
                break;
        }
    }

    /** All channels draw two hundred polygons of fourteen great parts, as often as a frame lets them. */
    private static void greatestFrame(Check check) {
        Stage m = new Stage();
        int[] group = new int[64];
        group[0] = 2;
        group[3] = 15;
        for (int i = 0; i < 15; i++) {
            group[4 + 4 * i + 1] = i < 14 ? 100 : 0;
        }
        Load.shapes(m, 0, group);
        int[] polygon = new int[49];
        polygon[0] = 0xC3;
        polygon[3] = 15;
        for (int i = 0; i < 15; i++) {
            polygon[4 + 2 * i] = 255;
            polygon[5 + 2 * i] = i % 2 * 255;
        }
        Load.shapes(m, 100, polygon);
        m.set(3, 32767);
        for (int at = 0; at < 1020; at += 6) {
            Load.program(m, at, Load.DRAW, 0, 0, 1, 2, 3);
        }
        Load.program(m, 1020, Load.JUMP, 0, 0);
        for (int k = 0; k < 16; k++) {
            m.ask(k, 0);
        }
        check.due("frame(20)", m.frame(20), 16);
        // Five groups in one another have 14 polygons each, and the sixth is begun: 76 shapes a DRAW.
        check.due("shapes", m.about(5), 16 * 20 * 76);
        check.due("rows", m.about(4), 16 * 20 * 70 * 7 * 40);
        check.due("instructions", m.about(3), 16 * 20);
    }
}
