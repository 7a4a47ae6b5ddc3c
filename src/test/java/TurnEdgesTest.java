/** Terms, channels and frames: each sentence that names a boundary case has a test of its own. */
final class TurnEdgesTest {
    public static void main(String[] args) {
        Check check = new Check();
        noneHasAnAddressAtFirst(check);
        noneIsPausedAtFirst(check);
        variablesAreShared(check);
        latestAddressCounts(check);
        latestPauseCounts(check);
        askingsAreOfTwoKinds(check);
        askedIsForOneFrame(check);
        askedBecomesSoForAllFirst(check);
        anAddressAskedForEmptiesThePile(check);
        noneAskedForEmptiesThePile(check);
        aPauseLeavesThePile(check);
        channelsTakeTurnsByNumbers(check);
        pausedOnesHaveNoTurn(check);
        startsFromTheNextFrameOn(check);
        pausesFromTheNextFrameOn(check);
        goesOnFromTheNextFrameOn(check);
        endsFromTheNextFrameOn(check);
        killIsForTheChannelItself(check);
        faultsAreForTheChannelItself(check);
        turnsEndByYield(check);
        turnsEndByKill(check);
        turnsEndByAFault(check);
        turnsEndByTheCap(check);
        theLastOfTheCapMayEndTheTurn(check);
        eachChannelHasTheWholeCap(check);
        addressIsBehindTheLast(check);
        addressIsWhereTheLastWent(check);
        check.finish();
    }

    /** Adds 1 to a variable and yields, for ever. */
    private static void counter(Stage m, int address, int variable) {
        Load.program(m, address, Load.ADDK, variable, 0, 1, Load.YIELD,
            Load.JUMP, Load.high(address), Load.low(address));
    }

    /** "A CHANNEL has an ADDRESS in the program or none (all have none at first)" */
    private static void noneHasAnAddressAtFirst(Check check) {
        Stage m = new Stage();
        check.due("frame(500)", m.frame(500), 0);
        for (int k = 0; k < 16; k++) {
            check.due("address of " + k, m.channel(k, 0), -1);
        }
        check.due("instructions", m.about(3), 0);
    }

    /** "may be PAUSED (none is)" */
    private static void noneIsPausedAtFirst(Check check) {
        Stage m = new Stage();
        for (int k = 0; k < 16; k++) {
            check.due("paused " + k, m.channel(k, 1), 0);
            m.ask(k, 0);
        }
        check.due("all have a turn", m.frame(1), 16);
    }

    /** "share variables" */
    private static void variablesAreShared(Check check) {
        Stage m = new Stage();
        Load.program(m, 0, Load.ADDK, 31, 0, 3, Load.YIELD);
        for (int k = 0; k < 16; k++) {
            m.ask(k, 0);
        }
        m.frame(2);
        check.due("variable 31", m.get(31), 48);
    }

    /** "the latest asking of each kind counts", of addresses */
    private static void latestAddressCounts(Check check) {
        int[][] askings = {{5, 6}, {-1, 6}, {5, -1}, {0, 1023}, {1023, 0}, {7, 7}};
        for (int[] asking : askings) {
            Stage m = new Stage();
            m.ask(3, asking[0]);
            m.ask(3, asking[1]);
            check.due("asked", m.channel(3, 4), asking[1]);
            check.due("turns", m.frame(1), asking[1] == -1 ? 0 : 1);
            check.due("address", m.channel(3, 0), asking[1] == -1 ? -1 : (asking[1] + 4) % 1024);
        }
        Stage m = Load.ran(Load.START, 1, 0, 50, Load.EACH, 1, 1, 2, Load.EACH, 2, 2, 2,
            Load.START, 2, 0, 60, Load.YIELD);
        check.due("none asked behind an address", m.channel(1, 4), -1);
        check.due("an address asked behind none", m.channel(2, 4), 60);
        m.ask(1, 70);
        m.ask(2, -1);
        check.due("asked by ask behind EACH", m.channel(1, 4), 70);
        check.due("asked by ask behind START", m.channel(2, 4), -1);
        // A later channel of the same frame asks later.
        m = new Stage();
        Load.program(m, 0, Load.START, 9, 0, 50, Load.YIELD);
        Load.program(m, 8, Load.START, 9, 0, 60, Load.YIELD);
        m.ask(0, 8);
        m.ask(1, 0);
        m.frame(5);
        check.due("asked by the later channel", m.channel(9, 4), 50);
    }

    /** "the latest asking of each kind counts", of pauses */
    private static void latestPauseCounts(Check check) {
        Stage m = Load.ran(Load.EACH, 1, 2, 1, Load.EACH, 1, 1, 0, Load.EACH, 3, 4, 0, Load.EACH, 4, 4, 1, Load.YIELD);
        m.frame(1);
        int[] want = {0, 0, 1, 0, 1, 0};
        for (int k = 0; k < want.length; k++) {
            check.due("paused " + k, m.channel(k, 1), want[k]);
        }
    }

    /** "an address (or none) may be ASKED for it, and that it is paused, or is not": one leaves the other. */
    private static void askingsAreOfTwoKinds(Check check) {
        Stage m = Load.ran(Load.EACH, 1, 1, 1, Load.START, 1, 0, 90, Load.START, 2, 0, 90, Load.EACH, 2, 2, 1,
            Load.EACH, 3, 3, 1, Load.EACH, 3, 3, 2, Load.YIELD);
        check.due("frame(1)", m.frame(1), 1);
        int[] addresses = {-2, 90, 90, -1};
        for (int k = 1; k < 4; k++) {
            check.due("address of " + k, m.channel(k, 0), addresses[k]);
            check.due("paused " + k, m.channel(k, 1), 1);
        }
        m.ask(1, 100);
        m.frame(1);
        check.due("an address does not end the pause", m.channel(1, 1), 1);
        check.due("address of a paused one", m.channel(1, 0), 100);
    }

    /** "For the next frame an address [..] may be ASKED": once, and not for those behind it. */
    private static void askedIsForOneFrame(Check check) {
        Stage m = new Stage();
        m.ask(0, 40);
        m.frame(1);
        check.due("address", m.channel(0, 0), 44);
        m.frame(1);
        check.due("not asked once more", m.channel(0, 0), 48);
        // The pause of channel 1 is taken back by another, and stays taken back.
        counter(m, 200, 1);
        Load.program(m, 100, Load.EACH, 1, 1, 1, Load.YIELD, Load.EACH, 1, 1, 0, Load.YIELD, Load.YIELD);
        m.ask(0, 100);
        m.ask(1, 200);
        m.frame(3);
        m.frame(3);
        check.due("paused", m.channel(1, 1), 1);
        m.frame(3);
        check.due("no more paused", m.channel(1, 1), 0);
        m.frame(3);
        check.due("not paused once more", m.channel(1, 1), 0);
    }

    /** "A FRAME: first, what was asked for becomes so, for all channels" */
    private static void askedBecomesSoForAllFirst(Check check) {
        Stage m = new Stage();
        // Channel 0 asks 1 to be elsewhere, 2 to pause and 3 to end, but this frame was asked otherwise.
        Load.program(m, 0, Load.START, 1, 0, 80, Load.EACH, 2, 2, 1, Load.EACH, 3, 3, 2, Load.YIELD);
        counter(m, 40, 1);
        counter(m, 50, 2);
        counter(m, 60, 3);
        counter(m, 80, 4);
        m.ask(0, 0);
        m.ask(1, 40);
        m.ask(2, 50);
        m.ask(3, 60);
        check.due("frame(9)", m.frame(9), 4);
        check.due("1 was where it was asked before", m.get(1), 1);
        check.due("2 was not paused", m.get(2), 1);
        check.due("3 had not ended", m.get(3), 1);
        check.due("asked for 1", m.channel(1, 4), 80);
        check.due("asked for 3", m.channel(3, 4), -1);
        m.ask(0, -1);
        check.due("frame(9)", m.frame(9), 1);
        check.due("1 is where it was asked", m.get(4), 1);
        check.due("2 is paused", m.get(2), 1);
        check.due("3 has ended", m.get(3), 1);
    }

    /** Channel 0 yields at 7 with two return addresses. */
    private static Stage withTwoReturns() {
        return Load.ran(Load.CALL, 0, 3, Load.CALL, 0, 6, Load.YIELD, Load.YIELD, Load.RET);
    }

    /** "(an address, or none, asked for: its pile is empty)", of an address */
    private static void anAddressAskedForEmptiesThePile(Check check) {
        Stage m = withTwoReturns();
        m.ask(0, 7);
        check.due("not before the frame", m.channel(0, 2), 2);
        m.frame(1);
        check.due("returns", m.channel(0, 2), 0);
        m.frame(1);
        check.due("RET finds none", m.channel(0, 3), 2);
    }

    /** "(an address, or none, asked for: its pile is empty)", of none */
    private static void noneAskedForEmptiesThePile(Check check) {
        Stage m = withTwoReturns();
        m.ask(0, -1);
        check.due("not before the frame", m.channel(0, 2), 2);
        m.frame(1);
        check.due("returns", m.channel(0, 2), 0);
        check.due("address", m.channel(0, 0), -1);
    }

    /** "(an address, or none, asked for: its pile is empty)": nothing else that is asked empties it. */
    private static void aPauseLeavesThePile(Check check) {
        Stage m = withTwoReturns();
        Load.program(m, 40, Load.EACH, 0, 0, 1, Load.YIELD, Load.EACH, 0, 0, 0, Load.YIELD, Load.YIELD);
        m.ask(1, 40);
        Load.program(m, 7, Load.JUMP, 0, 7);
        m.frame(2);
        m.frame(2);
        check.due("paused", m.channel(0, 1), 1);
        check.due("returns of a paused one", m.channel(0, 2), 2);
        m.frame(2);
        check.due("no more paused", m.channel(0, 1), 0);
        check.due("returns", m.channel(0, 2), 2);
        check.due("address", m.channel(0, 0), 7);
    }

    /** "Then each channel, by numbers, [..] has a TURN" */
    private static void channelsTakeTurnsByNumbers(Check check) {
        Stage m = new Stage();
        for (int k = 15; k >= 0; k--) {
            // Each keeps how many went before it, however late it was asked for.
            Load.program(m, 8 * k, Load.MOVE, 1 + k, 0, Load.ADDK, 0, 0, 1, Load.YIELD);
            m.ask(k, 8 * k);
        }
        check.due("frame(3)", m.frame(3), 16);
        for (int k = 0; k < 16; k++) {
            check.due("went before " + k, m.get(1 + k), k);
        }
    }

    /** "that has an address and is not paused" */
    private static void pausedOnesHaveNoTurn(Check check) {
        Stage m = new Stage();
        counter(m, 40, 1);
        Load.program(m, 0, Load.EACH, 0, 15, 1, Load.YIELD);
        m.ask(0, 0);
        m.ask(15, 40);
        check.due("frame(5)", m.frame(5), 2);
        check.due("all are paused", m.frame(5), 0);
        check.due("count", m.get(1), 1);
        check.due("address of a paused one stays", m.channel(15, 0), 45);
        check.due("paused without an address", m.channel(7, 1), 1);
        m.ask(7, 40);
        check.due("all are paused", m.frame(5), 0);
        check.due("address of a paused one is settled", m.channel(7, 0), 40);
        check.due("nothing is asked any more", m.channel(7, 4), -2);
    }

    /** "nothing changes that within a frame": of START */
    private static void startsFromTheNextFrameOn(Check check) {
        Stage m = new Stage();
        counter(m, 40, 1);
        Load.program(m, 0, Load.START, 0, 0, 40, Load.START, 15, 0, 40, Load.ADDK, 2, 0, 1, Load.YIELD, Load.KILL);
        m.ask(0, 0);
        check.due("frame(9)", m.frame(9), 1);
        check.due("its turn went on", m.get(2), 1);
        check.due("address of 0", m.channel(0, 0), 13);
        check.due("address of 15", m.channel(15, 0), -1);
        check.due("frame(9)", m.frame(9), 2);
        check.due("count", m.get(1), 2);
    }

    /** "nothing changes that within a frame": of EACH with 1 */
    private static void pausesFromTheNextFrameOn(Check check) {
        Stage m = new Stage();
        counter(m, 40, 1);
        Load.program(m, 0, Load.EACH, 0, 15, 1, Load.ADDK, 2, 0, 1, Load.YIELD);
        m.ask(0, 0);
        m.ask(1, 40);
        check.due("frame(9)", m.frame(9), 2);
        check.due("its turn went on", m.get(2), 1);
        check.due("the other had its turn", m.get(1), 1);
        check.due("paused 0", m.channel(0, 1), 0);
        check.due("paused 1", m.channel(1, 1), 0);
        check.due("frame(9)", m.frame(9), 0);
        check.due("paused 0", m.channel(0, 1), 1);
        check.due("paused 1", m.channel(1, 1), 1);
    }

    /** "nothing changes that within a frame": of EACH with 0 */
    private static void goesOnFromTheNextFrameOn(Check check) {
        Stage m = new Stage();
        counter(m, 40, 1);
        Load.program(m, 0, Load.EACH, 5, 5, 1, Load.YIELD, Load.EACH, 5, 5, 0, Load.YIELD, Load.YIELD);
        m.ask(0, 0);
        m.frame(9);
        m.ask(5, 40);
        check.due("frame(9)", m.frame(9), 1);
        check.due("paused in this frame", m.get(1), 0);
        check.due("paused still", m.channel(5, 1), 1);
        check.due("frame(9)", m.frame(9), 2);
        check.due("count", m.get(1), 1);
    }

    /** "nothing changes that within a frame": of EACH with 2 */
    private static void endsFromTheNextFrameOn(Check check) {
        Stage m = new Stage();
        counter(m, 40, 1);
        Load.program(m, 0, Load.EACH, 0, 15, 2, Load.ADDK, 2, 0, 1, Load.YIELD);
        m.ask(0, 0);
        m.ask(1, 40);
        check.due("frame(9)", m.frame(9), 2);
        check.due("its turn went on", m.get(2), 1);
        check.due("the other had its turn", m.get(1), 1);
        check.due("address of 0", m.channel(0, 0), 9);
        check.due("address of 1", m.channel(1, 0), 45);
        check.due("frame(9)", m.frame(9), 0);
        check.due("address of 0", m.channel(0, 0), -1);
        check.due("address of 1", m.channel(1, 0), -1);
    }

    /** "but KILL and faults, each for the channel itself": of KILL */
    private static void killIsForTheChannelItself(Check check) {
        Stage m = new Stage();
        counter(m, 40, 1);
        Load.program(m, 0, Load.KILL);
        m.ask(3, 40);
        m.ask(4, 0);
        m.ask(5, 40);
        check.due("frame(9)", m.frame(9), 3);
        check.due("at once", m.channel(4, 0), -1);
        check.due("the others", m.get(1), 2);
        check.due("frame(9)", m.frame(9), 2);
    }

    /** "but KILL and faults, each for the channel itself": of faults */
    private static void faultsAreForTheChannelItself(Check check) {
        Stage m = new Stage();
        counter(m, 40, 1);
        Load.program(m, 0, 99);
        m.ask(3, 40);
        m.ask(4, 0);
        m.ask(5, 40);
        check.due("frame(9)", m.frame(9), 3);
        check.due("at once", m.channel(4, 0), -1);
        check.due("fault of 3", m.channel(3, 3), 0);
        check.due("fault of 4", m.channel(4, 3), 5);
        check.due("fault of 5", m.channel(5, 3), 0);
        check.due("the others", m.get(1), 2);
        check.due("frame(9)", m.frame(9), 2);
    }

    /** A program at 0: a count, the instruction, and a count. */
    private static Stage counted(int cap, int instruction) {
        Stage m = new Stage();
        Load.program(m, 0, Load.ADDK, 1, 0, 1, instruction, Load.ADDK, 1, 0, 1, Load.YIELD);
        m.ask(0, 0);
        m.frame(cap);
        return m;
    }

    /** "instructions from its address on are done, until YIELD" */
    private static void turnsEndByYield(Check check) {
        Stage m = counted(500, Load.YIELD);
        check.due("count", m.get(1), 1);
        check.due("instructions", m.about(3), 2);
        check.due("address", m.channel(0, 0), 5);
        m.frame(500);
        check.due("goes on in the next frame", m.get(1), 2);
        check.due("address", m.channel(0, 0), 10);
    }

    /** "until [..] KILL" */
    private static void turnsEndByKill(Check check) {
        Stage m = counted(500, Load.KILL);
        check.due("count", m.get(1), 1);
        check.due("instructions", m.about(3), 2);
        check.due("address", m.channel(0, 0), -1);
        check.due("no fault", m.channel(0, 3), 0);
        check.due("frame(500)", m.frame(500), 0);
    }

    /** "until [..] a FAULT" */
    private static void turnsEndByAFault(Check check) {
        Stage m = counted(500, Load.RET);
        check.due("count", m.get(1), 1);
        check.due("instructions", m.about(3), 2);
        check.due("address", m.channel(0, 0), -1);
        check.due("fault", m.channel(0, 3), 2);
        check.due("frame(500)", m.frame(500), 0);
    }

    /** "or so many as the frame's CAP says were done" */
    private static void turnsEndByTheCap(Check check) {
        Stage m = new Stage();
        for (int at = 0; at < 1024; at += 4) {
            Load.program(m, at, Load.ADDK, 1, 0, 1);
        }
        m.ask(0, 0);
        int count = 0;
        int[] caps = {1, 2, 255, 256, 257, 499, 500, 1};
        for (int cap : caps) {
            m.frame(cap);
            count += cap;
            check.due("count behind cap " + cap, m.get(1), count);
            check.due("address behind cap " + cap, m.channel(0, 0), 4 * count % 1024);
            check.due("instructions of cap " + cap, m.about(3), cap);
        }
    }

    /** A YIELD, KILL or FAULT that is the last of the cap is done, and one behind it is not. */
    private static void theLastOfTheCapMayEndTheTurn(Check check) {
        int[] last = {Load.YIELD, Load.KILL, Load.RET};
        int[] addresses = {5, -1, -1};
        int[] faults = {0, 0, 2};
        for (int i = 0; i < last.length; i++) {
            Stage m = counted(2, last[i]);
            check.due("address behind " + last[i], m.channel(0, 0), addresses[i]);
            check.due("fault behind " + last[i], m.channel(0, 3), faults[i]);
            check.due("instructions with " + last[i], m.about(3), 2);
            m = counted(1, last[i]);
            check.due("address before " + last[i], m.channel(0, 0), 4);
            check.due("fault before " + last[i], m.channel(0, 3), 0);
            check.due("instructions without " + last[i], m.about(3), 1);
        }
    }

    /** The CAP is that of a turn, not of all channels together. */
    private static void eachChannelHasTheWholeCap(Check check) {
        Stage m = new Stage();
        Load.program(m, 0, Load.ADDK, 1, 0, 1, Load.JUMP, 0, 0);
        for (int k = 0; k < 16; k++) {
            m.ask(k, 0);
        }
        m.frame(3);
        check.due("instructions", m.about(3), 48);
        check.due("count", m.get(1), 32);
        for (int k = 0; k < 16; k++) {
            check.due("address of " + k, m.channel(k, 0), 4);
        }
    }

    /** "its address is then behind the last one" */
    private static void addressIsBehindTheLast(Check check) {
        int[][] programs = {
            {Load.SET, 1, 0, 0}, {Load.MOVE, 1, 2}, {Load.ADD, 1, 2}, {Load.ADDK, 1, 0, 0}, {Load.SUB, 1, 2},
            {Load.AND, 1, 0, 0}, {Load.OR, 1, 0, 0}, {Load.SHL, 1, 0}, {Load.SHR, 1, 0},
            {Load.IF, 1, 9, 0, 2, 0}, {Load.IF, 65, 9, 0, 0, 2, 0}, {Load.IF, 129, 9, 9, 2, 0}, {Load.YIELD},
            {Load.START, 9, 0, 0}, {Load.EACH, 9, 9, 0}, {Load.PAGE, 0}, {Load.FILL, 0, 0}, {Load.COPY, 0, 0},
            {Load.SHOW, 0}, {Load.DRAW, 0, 0, 1, 1, 128}
        };
        for (int[] program : programs) {
            for (int at : new int[] {0, 500, 1024 - program.length, 1023}) {
                Stage m = new Stage();
                Load.program(m, at, program);
                m.ask(0, at);
                m.frame(1);
                check.due("address behind " + program[0] + " at " + at, m.channel(0, 0), (at + program.length) % 1024);
            }
        }
        Stage m = new Stage();
        Load.program(m, 0, Load.LOOP, 1, 2, 0);
        m.set(1, 1);
        m.ask(0, 0);
        m.frame(1);
        check.due("address behind LOOP to 0", m.channel(0, 0), 4);
    }

    /** "(or where that went)" */
    private static void addressIsWhereTheLastWent(Check check) {
        int[][] programs = {
            {Load.JUMP, 2, 1}, {Load.CALL, 2, 1}, {Load.LOOP, 1, 2, 1}, {Load.IF, 0, 9, 0, 2, 1},
            {Load.IF, 64, 9, 0, 0, 2, 1}, {Load.IF, 128, 9, 9, 2, 1}
        };
        for (int[] program : programs) {
            for (int at : new int[] {0, 1023}) {
                Stage m = new Stage();
                Load.program(m, at, program);
                m.ask(0, at);
                m.frame(1);
                check.due("address where " + program[0] + " at " + at + " went", m.channel(0, 0), 0x201);
            }
        }
        Stage m = new Stage();
        Load.program(m, 1021, Load.CALL, 0, 40);
        Load.program(m, 40, Load.RET);
        m.ask(0, 1021);
        m.frame(2);
        check.due("address where RET went", m.channel(0, 0), 0);
    }
}
