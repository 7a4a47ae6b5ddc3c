/** Promise 8: channel; and what EACH, START, KILL and faults do to channels. */
final class ChannelTest {
    public static void main(String[] args) {
        Check check = new Check();
        wrongArguments(check);
        faultsStay(check);
        killKeepsThePile(check);
        eachAsks(check);
        eachReadsLowestBits(check);
        askingsOfTwoKinds(check);
        startsItself(check);
        check.finish();
    }

    private static void wrongArguments(Check check) {
        Stage m = Load.ran(Load.YIELD);
        for (int k : Load.EXTREMES) {
            for (int what : Load.EXTREMES) {
                boolean right = k >= 0 && k < 16 && what >= 0 && what <= 4;
                if (!right) {
                    check.due("channel(" + k + ", " + what + ")", m.channel(k, what), -1);
                }
            }
        }
        check.due("channel(0, 0)", m.channel(0, 0), 1);
    }

    private static void faultsStay(Check check) {
        Stage m = Load.ran(Load.RET);
        check.due("fault", m.channel(0, 3), 2);
        check.due("address", m.channel(0, 0), -1);
        check.due("fault of another", m.channel(1, 3), 0);
        Load.run(m, Load.YIELD);
        check.due("fault of long ago", m.channel(0, 3), 2);
        check.due("address", m.channel(0, 0), 1);
        Load.run(m, 200);
        check.due("latest fault", m.channel(0, 3), 5);
        Load.run(m, Load.KILL);
        check.due("KILL is no fault", m.channel(0, 3), 5);
        check.due("address", m.channel(0, 0), -1);
    }

    private static void killKeepsThePile(Check check) {
        Stage m = Load.ran(Load.CALL, 0, 3, Load.KILL);
        check.due("returns", m.channel(0, 2), 1);
        check.due("address", m.channel(0, 0), -1);
        m.frame(5);
        check.due("returns", m.channel(0, 2), 1);
        m.ask(0, 3);
        m.frame(5);
        check.due("returns", m.channel(0, 2), 0);
    }

    private static void eachAsks(Check check) {
        Stage m = Load.ran(Load.EACH, 2, 4, 1, Load.EACH, 9, 8, 1, Load.EACH, 15, 15, 1,
            Load.EACH, 6, 6, 2, Load.YIELD);
        check.due("asked for 5", m.channel(5, 4), -2);
        check.due("asked for 6", m.channel(6, 4), -1);
        check.due("asked for 7", m.channel(7, 4), -2);
        check.due("a pause is not told as an address", m.channel(3, 4), -2);
        m.frame(1);
        for (int k = 0; k < 16; k++) {
            int want = k >= 2 && k <= 4 || k == 15 ? 1 : 0;
            check.due("paused " + k, m.channel(k, 1), want);
        }
        Stage all = Load.ran(Load.EACH, 0, 15, 2, Load.YIELD, Load.YIELD);
        for (int k = 0; k < 16; k++) {
            check.due("asked for " + k, all.channel(k, 4), -1);
        }
        check.due("none has a turn", all.frame(5), 0);
    }

    private static void eachReadsLowestBits(Check check) {
        Stage m = Load.ran(Load.EACH, 0xF3, 0x25, 2, Load.START, 0xE7, 0xFC, 0x21, Load.YIELD);
        for (int k = 0; k < 16; k++) {
            int want = k >= 3 && k <= 5 ? -1 : k == 7 ? 0x21 : -2;
            check.due("asked for " + k, m.channel(k, 4), want);
        }
        // The asking is a whole byte, and is looked at though no channel is meant.
        int[] wrong = {3, 16, 128, 129, 130, 255};
        for (int asking : wrong) {
            Stage f = Load.ran(Load.EACH, 1, 3, asking, Load.YIELD);
            check.due("fault of EACH 1 3 " + asking, f.channel(0, 3), 4);
            check.due("address", f.channel(0, 0), -1);
            check.due("asked", f.channel(2, 4), -2);
            check.due("done", f.about(3), 1);
            f.frame(1);
            check.due("paused", f.channel(2, 1), 0);
            f = Load.ran(Load.EACH, 3, 1, asking, Load.YIELD);
            check.due("fault of EACH 3 1 " + asking, f.channel(0, 3), 4);
        }
    }

    private static void askingsOfTwoKinds(Check check) {
        Stage m = Load.ran(Load.START, 1, 0, 40, Load.EACH, 1, 1, 0, Load.EACH, 1, 1, 1, Load.YIELD);
        check.due("asked", m.channel(1, 4), 40);
        m.frame(1);
        check.due("address", m.channel(1, 0), 40);
        check.due("paused", m.channel(1, 1), 1);
        m.ask(1, 50);
        m.frame(1);
        check.due("address", m.channel(1, 0), 50);
        check.due("still paused", m.channel(1, 1), 1);
        m = Load.ran(Load.EACH, 1, 1, 1, Load.EACH, 1, 1, 0, Load.START, 1, 0, 40, Load.EACH, 1, 1, 2, Load.YIELD);
        m.frame(1);
        check.due("address", m.channel(1, 0), -1);
        check.due("not paused", m.channel(1, 1), 0);
        m = Load.ran(Load.EACH, 1, 1, 2, Load.START, 1, 0, 40, Load.YIELD);
        m.frame(1);
        check.due("behind SET at 40", m.channel(1, 0), 44);
    }

    private static void startsItself(Check check) {
        // What is asked outlives a KILL or a fault of the same turn.
        Stage m = Load.ran(Load.START, 0, 0, 40, Load.KILL);
        check.due("address", m.channel(0, 0), -1);
        check.due("asked", m.channel(0, 4), 40);
        check.due("frame(1)", m.frame(1), 1);
        check.due("address", m.channel(0, 0), 44);
        m = Load.ran(Load.START, 0, 0, 40, 77);
        check.due("asked", m.channel(0, 4), 40);
        check.due("frame(1)", m.frame(1), 1);
        check.due("fault", m.channel(0, 3), 5);
    }
}
