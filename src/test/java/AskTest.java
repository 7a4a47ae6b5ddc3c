/** Promise 6: ask. */
final class AskTest {
    public static void main(String[] args) {
        Check check = new Check();
        asksForTheNextFrame(check);
        latestAskingCounts(check);
        askingEmptiesThePile(check);
        wrongArguments(check);
        check.finish();
    }

    private static void asksForTheNextFrame(Check check) {
        Stage m = new Stage();
        Load.program(m, 1023, Load.YIELD);
        Load.program(m, 0, Load.YIELD);
        check.due("ask(15, 1023)", m.ask(15, 1023), true);
        check.due("ask(0, 0)", m.ask(0, 0), true);
        check.due("no address yet", m.channel(15, 0), -1);
        check.due("asked", m.channel(15, 4), 1023);
        check.due("asked", m.channel(0, 4), 0);
        check.due("frame(5)", m.frame(5), 2);
        check.due("behind the last byte is the first", m.channel(15, 0), 0);
        check.due("address of 0", m.channel(0, 0), 1);
        check.due("nothing asked", m.channel(15, 4), -2);
        check.due("ask(15, -1)", m.ask(15, -1), true);
        check.due("asked none", m.channel(15, 4), -1);
        check.due("still there", m.channel(15, 0), 0);
        check.due("frame(5)", m.frame(5), 1);
        check.due("ended", m.channel(15, 0), -1);
        check.due("nothing asked", m.channel(15, 4), -2);
    }

    private static void latestAskingCounts(Check check) {
        Stage m = new Stage();
        m.ask(2, 10);
        m.ask(2, 20);
        check.due("latest asked", m.channel(2, 4), 20);
        m.ask(2, -1);
        check.due("latest asked", m.channel(2, 4), -1);
        check.due("no turn", m.frame(1), 0);
        m.ask(2, -1);
        m.ask(2, 40);
        check.due("one turn", m.frame(1), 1);
        check.due("behind SET at 40", m.channel(2, 0), 44);
        // A START of the frame before and an ask are of one kind.
        Stage other = Load.ran(Load.START, 3, 0, 50, Load.YIELD);
        check.due("asked by START", other.channel(3, 4), 50);
        other.ask(3, 60);
        check.due("asked by ask", other.channel(3, 4), 60);
        other.frame(1);
        check.due("behind SET at 60", other.channel(3, 0), 64);
    }

    private static void askingEmptiesThePile(Check check) {
        Stage m = Load.ran(Load.CALL, 0, 3, Load.CALL, 0, 6, Load.YIELD, Load.KILL);
        check.due("returns", m.channel(0, 2), 2);
        m.ask(0, 6);
        check.due("returns before the frame", m.channel(0, 2), 2);
        m.frame(9);
        check.due("returns", m.channel(0, 2), 0);
        m = Load.ran(Load.CALL, 0, 3, Load.CALL, 0, 6, Load.YIELD, Load.KILL);
        m.ask(0, -1);
        m.frame(9);
        check.due("returns behind none", m.channel(0, 2), 0);
        check.due("address behind none", m.channel(0, 0), -1);
    }

    private static void wrongArguments(Check check) {
        for (int k : Load.EXTREMES) {
            for (int address : Load.EXTREMES) {
                Stage m = new Stage();
                boolean right = k >= 0 && k < 16 && address >= -1 && address < 1024;
                check.due("ask(" + k + ", " + address + ")", m.ask(k, address), right);
                for (int other = 0; other < 16; other++) {
                    int want = right && other == k ? address : -2;
                    check.due("asked for " + other + " by ask(" + k + ", " + address + ")", m.channel(other, 4), want);
                }
            }
        }
    }
}
