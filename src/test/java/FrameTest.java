/** Promise 7: frame, its turns, its cap and the order of channels. */
final class FrameTest {
    public static void main(String[] args) {
        Check check = new Check();
        wrongCapsDoNothing(check);
        capEndsTurns(check);
        capHoldsForEachChannel(check);
        channelsGoByNumbers(check);
        askedForAllFirst(check);
        pausedHaveNoTurn(check);
        turnsOfEndedChannelsCount(check);
        check.finish();
    }

    private static void wrongCapsDoNothing(Check check) {
        Stage m = Load.ran(Load.ADDK, 1, 0, 1, Load.YIELD, Load.ADDK, 1, 0, 1, Load.YIELD);
        m.ask(4, 77);
        for (int cap : Load.EXTREMES) {
            if (cap < 1 || cap > 500) {
                check.due("frame(" + cap + ")", m.frame(cap), -1);
            }
        }
        check.due("frames", m.about(2), 1);
        check.due("instructions of the latest frame", m.about(3), 2);
        check.due("still asked", m.channel(4, 4), 77);
        check.due("variable", m.get(1), 1);
        check.due("address", m.channel(0, 0), 5);
    }

    private static void capEndsTurns(Check check) {
        Stage m = new Stage();
        Load.program(m, 0, Load.ADDK, 1, 0, 1, Load.JUMP, 0, 0);
        m.ask(0, 0);
        check.due("frame(1)", m.frame(1), 1);
        check.due("behind the first", m.channel(0, 0), 4);
        check.due("done", m.about(3), 1);
        check.due("frame(2)", m.frame(2), 1);
        check.due("behind the third", m.channel(0, 0), 4);
        check.due("frame(1)", m.frame(1), 1);
        check.due("where the jump went", m.channel(0, 0), 0);
        check.due("frame(499)", m.frame(499), 1);
        check.due("done", m.about(3), 499);
        check.due("v", m.get(1), 252);
        check.due("frame(500)", m.frame(500), 1);
        check.due("done", m.about(3), 500);
        check.due("v", m.get(1), 502);
        check.due("frames", m.about(2), 5);
    }

    private static void capHoldsForEachChannel(Check check) {
        Stage m = new Stage();
        Load.program(m, 0, Load.ADDK, 1, 0, 1, Load.JUMP, 0, 0);
        for (int k = 0; k < 16; k++) {
            m.ask(k, 0);
        }
        check.due("frame(500)", m.frame(500), 16);
        check.due("done", m.about(3), 8000);
        check.due("v", m.get(1), 4000);
    }

    private static void channelsGoByNumbers(Check check) {
        Stage m = new Stage();
        for (int k = 0; k < 16; k++) {
            // Four bits of the order are kept: each adds its number to what it moves up.
            Load.program(m, 16 * k, Load.SHL, 0, 1, Load.ADDK, 0, 0, k & 1, Load.MOVE, 1 + k, 0, Load.YIELD);
            m.ask(15 - k, 16 * (15 - k));
        }
        check.due("frame(9)", m.frame(9), 16);
        int want = 0;
        for (int k = 0; k < 16; k++) {
            want = (short) (want << 1 | k & 1);
            check.due("behind channel " + k, m.get(1 + k), want);
        }
    }

    private static void askedForAllFirst(Check check) {
        Stage m = new Stage();
        // Channel 1 starts 0 and 2, pauses 3 and ends 4: all from the next frame on.
        Load.program(m, 0, Load.START, 0, 0, 100, Load.START, 2, 0, 100, Load.EACH, 3, 3, 1,
            Load.EACH, 4, 4, 2, Load.YIELD, Load.KILL);
        Load.program(m, 100, Load.ADDK, 5, 0, 1, Load.YIELD, Load.JUMP, 0, 100);
        m.ask(1, 0);
        m.ask(3, 100);
        m.ask(4, 100);
        check.due("frame(20)", m.frame(20), 3);
        check.due("v", m.get(5), 2);
        check.due("channel 2 not yet", m.channel(2, 0), -1);
        check.due("channel 3 not yet", m.channel(3, 1), 0);
        check.due("channel 4 not yet", m.channel(4, 0), 105);
        check.due("frame(20)", m.frame(20), 3);
        check.due("v", m.get(5), 4);
        check.due("channel 3 paused", m.channel(3, 1), 1);
        check.due("channel 4 ended", m.channel(4, 0), -1);
        check.due("frame(20)", m.frame(20), 2);
    }

    private static void pausedHaveNoTurn(Check check) {
        Stage m = Load.ran(Load.EACH, 0, 2, 1, Load.YIELD, Load.ADDK, 1, 0, 1, Load.YIELD);
        m.ask(1, 5);
        m.ask(3, 5);
        check.due("frame(9)", m.frame(9), 1);
        check.due("v", m.get(1), 1);
        check.due("address of a paused one", m.channel(0, 0), 5);
        check.due("address asked for a paused one", m.channel(1, 0), 5);
        check.due("paused without an address", m.channel(2, 1), 1);
        check.due("not paused", m.channel(3, 1), 0);
        Load.program(m, 20, Load.EACH, 0, 1, 0, Load.KILL);
        m.ask(3, 20);
        check.due("frame(9)", m.frame(9), 1);
        check.due("frame(9)", m.frame(9), 2);
        check.due("v", m.get(1), 3);
        check.due("no pause of 2 was taken back", m.channel(2, 1), 1);
    }

    private static void turnsOfEndedChannelsCount(Check check) {
        Stage m = new Stage();
        Load.program(m, 0, Load.KILL, 99, Load.RET);
        m.ask(0, 0);
        m.ask(1, 1);
        m.ask(2, 2);
        check.due("frame(9)", m.frame(9), 3);
        check.due("done", m.about(3), 3);
        check.due("frame(9)", m.frame(9), 0);
        check.due("done", m.about(3), 0);
        check.due("frames", m.about(2), 2);
    }
}
