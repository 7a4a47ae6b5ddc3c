import java.util.ArrayList;
import java.util.List;

/** What it is, and promises 1 to 10: each sentence that names a boundary case has a test of its own. */
final class FaceEdgesTest {
    private static final int MIN = Integer.MIN_VALUE;
    private static final int MAX = Integer.MAX_VALUE;

    public static void main(String[] args) {
        Check check = new Check();
        usedForFiveHundredAndTwelveCalls(check);
        laterCallsThrowNothing(check);
        noFrameWasDoneAtFirst(check);
        putHighestByteFirst(check);
        putAtNoSuchAddress(check);
        putIntoNoSuchBytes(check);
        byteAtOfNoneSuch(check);
        setWraps(check);
        setOfNoneSuch(check);
        getOfNoneSuch(check);
        askForTheFirstAndTheLast(check);
        askForNone(check);
        askForNoSuchChannel(check);
        askForNoSuchAddress(check);
        frameWithLeastAndGreatestCap(check);
        frameWithAnotherCap(check);
        frameCountsTurns(check);
        channelWithoutAnAddress(check);
        channelTellsPauses(check);
        channelTellsReturnAddresses(check);
        channelTellsTheLatestFault(check);
        channelTellsWhatIsAsked(check);
        channelOfAnotherWhat(check);
        channelOfNoSuchChannel(check);
        pixelAtTheCorners(check);
        pixelOfNoneSuch(check);
        aboutCountsFrames(check);
        aboutCountsTheInstructionOfAFault(check);
        aboutCountsRowsThatGotAPixel(check);
        aboutCountsShapesThatWereBegun(check);
        aboutTellsTheLatestFrameAlone(check);
        aboutOfAnotherWhat(check);
        refusedCallsChangeNothing(check);
        tellingCallsChangeNothing(check);
        check.finish();
    }

    /** "An object is used for at most 512 calls after it has been made" */
    private static void usedForFiveHundredAndTwelveCalls(Check check) {
        for (int last = 0; last < 9; last++) {
            StageMachine m = new StageMachine();
            m.put(0, 0, Load.ADDK << 24 | 1);
            m.put(0, 4, Load.JUMP << 24);
            m.ask(0, 0);
            for (int call = 4; call <= 511; call++) {
                m.frame(2);
            }
            check.due("call 512, kind " + last, call512(m, last), due512(last));
        }
        StageMachine m = new StageMachine();
        for (int call = 1; call <= 511; call++) {
            check.due("put as call " + call, m.put(call & 1, call, call << 24), true);
        }
        check.due("byteAt as call 512", m.byteAt(1, 511), 255);
    }

    private static int call512(StageMachine m, int kind) {
        switch (kind) {
            case 0: return m.put(1, 1020, -1) ? 1 : 0;
            case 1: return m.byteAt(0, 3);
            case 2: return m.set(31, 7) ? 1 : 0;
            case 3: return m.get(0);
            case 4: return m.ask(15, 1023) ? 1 : 0;
            case 5: return m.frame(500);
            case 6: return m.channel(0, 0);
            case 7: return m.pixel(3, 63, 39);
            default: return m.about(2);
        }
    }

    private static int due512(int kind) {
        int[] due = {1, 1, 1, 508, 1, 1, 0, 0, 508};
        return due[kind];
    }

    /** "what later calls answer is free", but no call of the face throws. */
    private static void laterCallsThrowNothing(Check check) {
        StageMachine m = new StageMachine();
        m.put(0, 0, Load.DRAW << 24);
        m.put(1, 0, 0x02FFFFFF);
        m.ask(0, 0);
        int thrown = 0;
        for (int call = 4; call < 3000; call++) {
            try {
                call512(m, call % 9);
                m.frame(call % 502);
            } catch (RuntimeException e) {
                thrown++;
            }
        }
        check.due("calls that threw", thrown, 0);
    }

    /** "As at first; no frame was done." */
    private static void noFrameWasDoneAtFirst(Check check) {
        Stage m = new Stage();
        for (int what = 0; what < 6; what++) {
            check.due("about(" + what + ") of a new object", m.about(what), 0);
        }
        check.due("frame(1) of a new object", m.frame(1), 0);
        for (int what = 0; what < 6; what++) {
            check.due("about(" + what + ") behind it", m.about(what), what == 2 ? 1 : 0);
        }
    }

    /** "Four bytes [..] from an address on, the highest of v first: true" */
    private static void putHighestByteFirst(Check check) {
        for (int which = 0; which < 2; which++) {
            for (int address : new int[] {0, 1, 1019, 1020}) {
                Stage m = new Stage();
                check.due("put at " + address, m.put(which, address, 0x80FF017F), true);
                int[] want = {0x80, 0xFF, 0x01, 0x7F};
                for (int i = 0; i < 4; i++) {
                    check.due("byte " + i + " from " + address, m.byteAt(which, address + i), want[i]);
                    check.due("byte of the other", m.byteAt(1 - which, address + i), 0);
                }
                check.due("byte before", m.byteAt(which, address - 1), address == 0 ? -1 : 0);
                check.due("byte behind", m.byteAt(which, address + 4), address == 1020 ? -1 : 0);
            }
        }
    }

    /** "false if there is no such address (0 .. 1020)" */
    private static void putAtNoSuchAddress(Check check) {
        for (int which = 0; which < 2; which++) {
            for (int address : new int[] {1021, 1022, 1023, 1024, MAX, -1, -2, -3, -4, -1024, MIN}) {
                Stage m = new Stage();
                check.due("put(" + which + ", " + address + ", -1)", m.put(which, address, -1), false);
                for (int at = 0; at < 1024; at++) {
                    check.due("byte " + at + " behind put at " + address, m.byteAt(which, at), 0);
                }
            }
        }
    }

    /** "[false if there is no such address], or which" */
    private static void putIntoNoSuchBytes(Check check) {
        for (int which : new int[] {-1, 2, 3, 256, MIN, MAX}) {
            Stage m = new Stage();
            check.due("put(" + which + ", 0, -1)", m.put(which, 0, -1), false);
            check.due("put(" + which + ", 1020, -1)", m.put(which, 1020, -1), false);
            check.due("first byte of the program", m.byteAt(0, 0), 0);
            check.due("first byte of the shapes", m.byteAt(1, 0), 0);
            check.due("last byte of the program", m.byteAt(0, 1023), 0);
            check.due("last byte of the shapes", m.byteAt(1, 1023), 0);
        }
    }

    /** "A byte of the program or the shapes; NONE if there is none such." */
    private static void byteAtOfNoneSuch(Check check) {
        Stage m = new Stage();
        for (int which = 0; which < 2; which++) {
            m.put(which, 0, 0xFE000000);
            m.put(which, 1020, 255);
            check.due("the first byte", m.byteAt(which, 0), 254);
            check.due("the last byte", m.byteAt(which, 1023), 255);
            for (int address : new int[] {-1, -1024, 1024, 2048, MIN, MAX}) {
                check.due("byteAt(" + which + ", " + address + ")", m.byteAt(which, address), -1);
            }
        }
        for (int which : new int[] {-1, 2, 3, MIN, MAX}) {
            check.due("byteAt(" + which + ", 0)", m.byteAt(which, 0), -1);
            check.due("byteAt(" + which + ", 1023)", m.byteAt(which, 1023), -1);
        }
    }

    /** "A variable becomes v, wrapped: true" */
    private static void setWraps(Check check) {
        int[][] rows = {
            {32766, 32766}, {32767, 32767}, {32768, -32768}, {32769, -32767}, {-32767, -32767}, {-32768, -32768},
            {-32769, 32767}, {65535, -1}, {65536, 0}, {65537, 1}, {-65536, 0},
            {MAX, -1}, {MIN, 0}, {MIN + 32768, -32768}
        };
        for (int variable : new int[] {0, 31}) {
            for (int[] row : rows) {
                Stage m = new Stage();
                check.due("set(" + variable + ", " + row[0] + ")", m.set(variable, row[0]), true);
                check.due("get behind set to " + row[0], m.get(variable), row[1]);
            }
        }
    }

    /** "false if there is none such" */
    private static void setOfNoneSuch(Check check) {
        for (int variable : new int[] {-1, -32, 32, 33, 64, MIN, MAX}) {
            Stage m = new Stage();
            check.due("set(" + variable + ", 9)", m.set(variable, 9), false);
            for (int v = 0; v < 32; v++) {
                check.due("get(" + v + ") behind set(" + variable + ", 9)", m.get(v), 0);
            }
        }
    }

    /** "A variable; 0 if there is none such." */
    private static void getOfNoneSuch(Check check) {
        Stage m = new Stage();
        for (int v = 0; v < 32; v++) {
            m.set(v, -1 - v);
        }
        check.due("get(0)", m.get(0), -1);
        check.due("get(31)", m.get(31), -32);
        for (int variable : new int[] {-1, -32, 32, 63, 1024, MIN, MAX}) {
            check.due("get(" + variable + ")", m.get(variable), 0);
        }
    }

    /** "For the next frame an address, 0 .. 1023, [..] is asked for a channel: true" */
    private static void askForTheFirstAndTheLast(Check check) {
        for (int k : new int[] {0, 15}) {
            for (int address : new int[] {0, 1, 1022, 1023}) {
                Stage m = new Stage();
                check.due("ask(" + k + ", " + address + ")", m.ask(k, address), true);
                check.due("asked", m.channel(k, 4), address);
                check.due("not before the next frame", m.channel(k, 0), -1);
                check.due("frame(1)", m.frame(1), 1);
                check.due("behind SET, round the end", m.channel(k, 0), (address + 4) % 1024);
            }
        }
    }

    /** "or none (-1), is asked for a channel: true" */
    private static void askForNone(Check check) {
        for (int k : new int[] {0, 15}) {
            Stage m = new Stage();
            m.ask(k, 8);
            m.frame(1);
            check.due("ask(" + k + ", -1)", m.ask(k, -1), true);
            check.due("asked", m.channel(k, 4), -1);
            check.due("not before the next frame", m.channel(k, 0), 12);
            check.due("frame(1)", m.frame(1), 0);
            check.due("address", m.channel(k, 0), -1);
            check.due("nothing asked any more", m.channel(k, 4), -2);
        }
    }

    /** "false if there is no such channel" */
    private static void askForNoSuchChannel(Check check) {
        for (int k : new int[] {-1, -16, 16, 17, 31, MIN, MAX}) {
            for (int address : new int[] {-1, 0, 1023}) {
                Stage m = new Stage();
                check.due("ask(" + k + ", " + address + ")", m.ask(k, address), false);
                nothingIsAsked(check, m);
            }
        }
    }

    /** "[false if there is no such channel,] or address" */
    private static void askForNoSuchAddress(Check check) {
        for (int address : new int[] {-2, -3, 1024, 1025, 2047, MIN, MAX}) {
            Stage m = new Stage();
            check.due("ask(0, " + address + ")", m.ask(0, address), false);
            check.due("ask(15, " + address + ")", m.ask(15, address), false);
            nothingIsAsked(check, m);
            m.ask(0, 5);
            m.ask(0, address);
            check.due("what was asked before stays", m.channel(0, 4), 5);
        }
    }

    private static void nothingIsAsked(Check check, Stage m) {
        for (int k = 0; k < 16; k++) {
            check.due("asked for " + k, m.channel(k, 4), -2);
        }
        check.due("no turn", m.frame(1), 0);
    }

    /** "A frame with a cap 1 .. 500" */
    private static void frameWithLeastAndGreatestCap(Check check) {
        for (int cap : new int[] {1, 2, 499, 500}) {
            Stage m = new Stage();
            m.put(0, 0, Load.ADDK << 24 | 1);
            m.put(0, 4, Load.ADDK << 24 | 1);
            m.put(0, 8, Load.JUMP << 24);
            m.ask(0, 0);
            check.due("frame(" + cap + ")", m.frame(cap), 1);
            check.due("instructions of cap " + cap, m.about(3), cap);
            check.due("variable behind cap " + cap, m.get(0), cap - cap / 3);
        }
    }

    /** "NONE for another cap" */
    private static void frameWithAnotherCap(Check check) {
        for (int cap : new int[] {0, -1, -500, 501, 502, 1000, MIN, MAX}) {
            Stage m = new Stage();
            m.ask(0, 0);
            check.due("frame(" + cap + ")", m.frame(cap), -1);
            check.due("no frame", m.about(2), 0);
            check.due("still asked", m.channel(0, 4), 0);
            check.due("no address yet", m.channel(0, 0), -1);
            check.due("frame(1) behind it", m.frame(1), 1);
        }
    }

    /** "how many channels had a turn" */
    private static void frameCountsTurns(Check check) {
        for (int n = 0; n <= 16; n++) {
            Stage m = new Stage();
            for (int k = 0; k < n; k++) {
                m.ask(15 - k, 0);
            }
            check.due("frame(1) of " + n, m.frame(1), n);
            check.due("instructions of " + n, m.about(3), n);
        }
    }

    /** "what 0: its address, NONE without one" */
    private static void channelWithoutAnAddress(Check check) {
        Stage m = Load.ran(Load.YIELD, Load.KILL);
        check.due("address", m.channel(0, 0), 1);
        check.due("without one", m.channel(1, 0), -1);
        m.frame(1);
        check.due("behind KILL", m.channel(0, 0), -1);
        m.put(0, 0, Load.JUMP << 24);
        m.ask(15, 0);
        m.frame(1);
        check.due("address 0 is one", m.channel(15, 0), 0);
        check.due("and has a turn", m.frame(1), 1);
    }

    /** "1: 1 if it is paused, else 0" */
    private static void channelTellsPauses(Check check) {
        Stage m = Load.ran(Load.EACH, 1, 2, 1, Load.YIELD, Load.EACH, 2, 3, 0, Load.YIELD, Load.YIELD);
        check.due("not yet", m.channel(1, 1), 0);
        m.frame(9);
        check.due("paused 0", m.channel(0, 1), 0);
        check.due("paused 1", m.channel(1, 1), 1);
        check.due("paused 2", m.channel(2, 1), 1);
        check.due("paused 3", m.channel(3, 1), 0);
        m.frame(9);
        check.due("still paused 1", m.channel(1, 1), 1);
        check.due("no more paused 2", m.channel(2, 1), 0);
    }

    /** "2: how many return addresses" */
    private static void channelTellsReturnAddresses(Check check) {
        Stage m = new Stage();
        for (int i = 0; i < 8; i++) {
            Load.program(m, 3 * i, Load.CALL, 0, 3 * i + 3);
        }
        Load.program(m, 24, Load.JUMP, 0, 30, 0, 0, 0, Load.RET);
        m.ask(0, 0);
        for (int i = 1; i <= 8; i++) {
            m.frame(1);
            check.due("returns behind CALL " + i, m.channel(0, 2), i);
            check.due("returns of another", m.channel(1, 2), 0);
        }
        m.frame(2);
        check.due("returns behind RET", m.channel(0, 2), 7);
    }

    /** "3: the latest FAULT that it ever had, 0 without one" */
    private static void channelTellsTheLatestFault(Check check) {
        Stage m = Load.ran(Load.YIELD);
        check.due("without one", m.channel(0, 3), 0);
        int[][] faults = {{Load.RET}, {Load.IF, 6, 0, 0}, {Load.EACH, 0, 0, 3}, {23}, {Load.CALL, 0, 0}};
        int[] want = {2, 3, 4, 5, 1};
        for (int i = 0; i < faults.length; i++) {
            Load.run(m, faults[i]);
            check.due("fault", m.channel(0, 3), want[i]);
            check.due("fault of another", m.channel(1, 3), 0);
            Load.run(m, Load.YIELD);
            check.due("ever had", m.channel(0, 3), want[i]);
            m.ask(0, -1);
            m.frame(1);
            check.due("ever had, without an address", m.channel(0, 3), want[i]);
        }
    }

    /** "4: the address that is asked for it, -1 none, -2 if nothing is asked" */
    private static void channelTellsWhatIsAsked(Check check) {
        Stage m = Load.ran(Load.START, 1, 3, 255, Load.START, 2, 0, 0, Load.EACH, 3, 3, 2, Load.EACH, 4, 4, 1,
            Load.EACH, 5, 5, 0, Load.YIELD, Load.YIELD);
        int[] want = {-2, 1023, 0, -1, -2, -2, -2};
        for (int k = 0; k < want.length; k++) {
            check.due("asked for " + k, m.channel(k, 4), want[k]);
        }
        // Channel 2 begins at 0, and must not ask once more.
        Load.program(m, 0, Load.YIELD);
        m.frame(1);
        for (int k = 0; k < want.length; k++) {
            check.due("asked for " + k + " behind the frame", m.channel(k, 4), -2);
        }
    }

    /** "NONE for another what" */
    private static void channelOfAnotherWhat(Check check) {
        Stage m = Load.ran(Load.YIELD);
        for (int what : new int[] {-1, -2, -3, 5, 6, 7, 256, MIN, MAX}) {
            check.due("channel(0, " + what + ")", m.channel(0, what), -1);
            check.due("channel(15, " + what + ")", m.channel(15, what), -1);
        }
    }

    /** "[NONE for another what,] or no such channel" */
    private static void channelOfNoSuchChannel(Check check) {
        Stage m = Load.ran(Load.YIELD);
        for (int k : new int[] {-1, -16, 16, 17, 32, MIN, MAX}) {
            for (int what = -1; what < 6; what++) {
                check.due("channel(" + k + ", " + what + ")", m.channel(k, what), -1);
            }
        }
        check.due("channel(15, 4)", m.channel(15, 4), -2);
    }

    /** "The colour of a pixel of a page" */
    private static void pixelAtTheCorners(Check check) {
        for (int page = 0; page < 4; page++) {
            Stage m = Load.ran(Load.FILL, page, 15, Load.YIELD);
            for (int other = 0; other < 4; other++) {
                int want = other == page ? 15 : 0;
                check.due("upper left", m.pixel(other, 0, 0), want);
                check.due("upper right", m.pixel(other, 63, 0), want);
                check.due("lower left", m.pixel(other, 0, 39), want);
                check.due("lower right", m.pixel(other, 63, 39), want);
            }
        }
    }

    /** "NONE if there is none such" */
    private static void pixelOfNoneSuch(Check check) {
        Stage m = Load.ran(Load.FILL, 0, 1, Load.FILL, 1, 2, Load.FILL, 2, 3, Load.FILL, 3, 4, Load.YIELD);
        for (int n : new int[] {-1, -4, -64, 4, 5, MIN, MAX}) {
            check.due("pixel(" + n + ", 0, 0)", m.pixel(n, 0, 0), -1);
        }
        for (int n : new int[] {-1, -64, 64, 65, 128, MIN, MAX}) {
            for (int page = 0; page < 4; page++) {
                check.due("pixel(" + page + ", " + n + ", 0)", m.pixel(page, n, 0), -1);
                check.due("pixel(" + page + ", " + n + ", 39)", m.pixel(page, n, 39), -1);
            }
        }
        for (int n : new int[] {-1, -40, 40, 41, 63, 64, MIN, MAX}) {
            for (int page = 0; page < 4; page++) {
                check.due("pixel(" + page + ", 0, " + n + ")", m.pixel(page, 0, n), -1);
                check.due("pixel(" + page + ", 63, " + n + ")", m.pixel(page, 63, n), -1);
            }
        }
    }

    /** "2: frames" */
    private static void aboutCountsFrames(Check check) {
        StageMachine m = new StageMachine();
        for (int n = 1; n <= 200; n++) {
            m.frame(n);
            check.due("frames", m.about(2), n);
        }
    }

    /** "3: instructions that were done in the latest frame (that of a FAULT, too)" */
    private static void aboutCountsTheInstructionOfAFault(Check check) {
        int[][] faults = {{Load.RET}, {Load.IF, 7, 0, 0}, {Load.EACH, 0, 0, 9}, {255}};
        for (int[] fault : faults) {
            check.due("instructions", Load.ran(fault).about(3), 1);
        }
        // CALL of itself: eight go on the pile, and the ninth is a FAULT.
        check.due("instructions", Load.ran(Load.CALL, 0, 0).about(3), 9);
        check.due("instructions with KILL", Load.ran(Load.KILL).about(3), 1);
        check.due("instructions with YIELD", Load.ran(Load.SHOW, 0, Load.YIELD).about(3), 2);
    }

    /** "4: rows of polygons that got a pixel or more in the latest frame" */
    private static void aboutCountsRowsThatGotAPixel(Check check) {
        int[][] places = {
            {0, 0, 3}, {63, 0, 3}, {64, 0, 0}, {-3, 0, 3}, {-4, 0, 0}, {0, -1, 2}, {0, -2, 1}, {0, -3, 0},
            {0, 37, 3}, {0, 38, 2}, {0, 39, 1}, {0, 40, 0}, {-3, 39, 1}, {63, -2, 1}, {64, 39, 0}
        };
        for (int[] place : places) {
            Stage m = new Stage();
            // Four pixels wide and three rows high, without a box.
            Load.shapes(m, 0, 0xC1, 0, 0, 2, 3, 0, 3, 3, 0, 0);
            m.set(1, place[0]);
            m.set(2, place[1]);
            Load.run(m, Load.DRAW, 0, 0, 1, 2, 128, Load.YIELD);
            check.due("rows at " + place[0] + ", " + place[1], m.about(4), place[2]);
        }
    }

    /** "5: shapes that were begun in it" */
    private static void aboutCountsShapesThatWereBegun(Check check) {
        Stage m = new Stage();
        // An empty group, a polygon without pairs, and a group of both, off the page.
        Load.shapes(m, 0, 2, 0, 0, 0);
        Load.shapes(m, 8, 0xC0, 0, 0, 0);
        Load.shapes(m, 16, 2, 0, 0, 2, 0, 0, 0, 0, 0, 8, 0, 0);
        m.set(1, 32767);
        Load.run(m, Load.YIELD);
        check.due("no shape", m.about(5), 0);
        Load.run(m, Load.DRAW, 0, 0, 1, 1, 128, Load.YIELD);
        check.due("an empty group", m.about(5), 1);
        Load.run(m, Load.DRAW, 0, 8, 1, 1, 128, Load.YIELD);
        check.due("an empty polygon", m.about(5), 1);
        Load.run(m, Load.DRAW, 0, 16, 1, 1, 128, Load.DRAW, 0, 8, 1, 1, 128, Load.YIELD);
        check.due("a group of two, and one", m.about(5), 4);
        check.due("no rows", m.about(4), 0);
    }

    /** "[..] in the latest frame" */
    private static void aboutTellsTheLatestFrameAlone(Check check) {
        Stage m = new Stage();
        Load.shapes(m, 0, 0xC1, 0, 0, 2, 0, 0, 0, 1, 0, 0);
        Load.run(m, Load.DRAW, 0, 0, 1, 1, 128, Load.PAGE, 2, Load.SHOW, 3, Load.YIELD);
        int[] first = {2, 3, 1, 4, 1, 1};
        int[] second = {2, 3, 2, 0, 0, 0};
        for (int what = 0; what < 6; what++) {
            check.due("about(" + what + ")", m.about(what), first[what]);
        }
        m.ask(0, -1);
        check.due("frame(9) without a turn", m.frame(9), 0);
        for (int what = 0; what < 6; what++) {
            check.due("about(" + what + ") of a frame without a turn", m.about(what), second[what]);
        }
    }

    /** "NONE for another what" */
    private static void aboutOfAnotherWhat(Check check) {
        Stage m = Load.ran(Load.YIELD);
        for (int what : new int[] {-1, -2, 6, 7, 8, 256, MIN, MAX}) {
            check.due("about(" + what + ")", m.about(what), -1);
        }
    }

    /** An object of which every part is at work. */
    private static Stage lively() {
        Stage m = new Stage();
        Load.shapes(m, 1000, 0xC6, 4, 4, 2, 20, 0, 30, 20, 0, 10);
        Load.program(m, 0, Load.PAGE, 1, Load.SHOW, 2, Load.FILL, 3, 9, Load.DRAW, 3, 0xE8, 1, 2, 128,
            Load.CALL, 0, 20, 0, 0, 0, 0, Load.YIELD, Load.KILL);
        Load.program(m, 40, Load.EACH, 5, 9, 1, Load.START, 3, 0, 77, Load.EACH, 2, 2, 2, Load.RET);
        m.set(1, 30);
        m.set(2, 20);
        m.set(31, -5);
        m.ask(0, 0);
        m.ask(4, 40);
        m.frame(30);
        m.ask(15, 1023);
        return m;
    }

    private static List<Integer> allOf(Stage m) {
        List<Integer> all = new ArrayList<>();
        for (int address = 0; address < 1024; address++) {
            all.add(m.byteAt(0, address));
            all.add(m.byteAt(1, address));
        }
        for (int v = 0; v < 32; v++) {
            all.add(m.get(v));
        }
        for (int what = 0; what < 6; what++) {
            all.add(m.about(what));
        }
        for (int i = 0; i < 16 * 5; i++) {
            all.add(m.channel(i / 5, i % 5));
        }
        for (int i = 0; i < 4 * 40 * 64; i++) {
            all.add(m.pixel(i / 2560, i % 64, i / 64 % 40));
        }
        return all;
    }

    /** What is answered by false or NONE leaves all as it was, for the next frame too. */
    private static void refusedCallsChangeNothing(Check check) {
        Stage refused = lively();
        int[] wrong = {-2, -3, 1024, 1025, MIN, MAX};
        for (int n : wrong) {
            check.due("put(0, " + n + ", -1)", refused.put(0, n, -1), false);
            check.due("put(1, " + n + ", -1)", refused.put(1, n, -1), false);
            check.due("put(" + n + ", 4, -1)", refused.put(n, 4, -1), false);
            check.due("set(" + n + ", 8)", refused.set(n, 8), false);
            check.due("ask(" + n + ", 8)", refused.ask(n, 8), false);
            check.due("ask(4, " + n + ")", refused.ask(4, n), false);
            check.due("frame(" + n + ")", refused.frame(n), -1);
        }
        check.due("all as it was", allOf(refused).equals(allOf(lively())), true);
        Stage plain = lively();
        check.due("the next frame", refused.frame(9), plain.frame(9));
        check.due("all as without them", allOf(refused).equals(allOf(plain)), true);
    }

    /** byteAt, get, channel, pixel and about tell, and change nothing. */
    private static void tellingCallsChangeNothing(Check check) {
        Stage told = lively();
        for (int n = -2; n < 70; n++) {
            told.byteAt(0, n);
            told.get(n);
            told.channel(n % 18, n % 6);
            told.pixel(n % 5, n, n % 42);
            told.about(n);
        }
        Stage plain = lively();
        check.due("the next frame", told.frame(9), plain.frame(9));
        check.due("all as without them", allOf(told).equals(allOf(plain)), true);
    }
}
