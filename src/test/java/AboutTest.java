/** Promise 10: about. */
final class AboutTest {
    public static void main(String[] args) {
        Check check = new Check();
        wrongArguments(check);
        countsOfTheLatestFrame(check);
        countsOverAllChannels(check);
        rowsOnThePageCount(check);
        rowsThatAreColouredTwiceCountTwice(check);
        check.finish();
    }

    private static void wrongArguments(Check check) {
        Stage m = Load.ran(Load.YIELD);
        for (int what : Load.EXTREMES) {
            if (what < 0 || what > 5) {
                check.due("about(" + what + ")", m.about(what), -1);
            }
        }
    }

    /** A square of four by four pixels, at x, y less two each. */
    private static void square(Stage m, int address) {
        Load.shapes(m, address, 0xC9, 4, 4, 2, 3, 0, 3, 4, 0, 0);
    }

    private static void countsOfTheLatestFrame(Check check) {
        Stage m = new Stage();
        square(m, 0);
        m.set(1, 10);
        m.set(2, 10);
        Load.run(m, Load.DRAW, 0, 0, 1, 2, 255, Load.DRAW, 0, 0, 1, 2, 255, Load.YIELD, Load.YIELD);
        check.due("frames", m.about(2), 1);
        check.due("instructions", m.about(3), 3);
        check.due("rows", m.about(4), 8);
        check.due("shapes", m.about(5), 2);
        m.frame(0);
        check.due("frames behind a wrong cap", m.about(2), 1);
        check.due("rows behind a wrong cap", m.about(4), 8);
        m.frame(5);
        check.due("frames", m.about(2), 2);
        check.due("instructions", m.about(3), 1);
        check.due("rows", m.about(4), 0);
        check.due("shapes", m.about(5), 0);
    }

    private static void countsOverAllChannels(Check check) {
        Stage m = new Stage();
        square(m, 0);
        m.set(1, 10);
        Load.program(m, 0, Load.DRAW, 0, 0, 1, 1, 255, 99);
        m.ask(3, 0);
        m.ask(5, 0);
        m.ask(7, 6);
        m.frame(50);
        check.due("instructions, faults with them", m.about(3), 5);
        check.due("rows", m.about(4), 8);
        check.due("shapes", m.about(5), 2);
    }

    private static void rowsOnThePageCount(Check check) {
        int[][] places = {
            {10, 10, 4}, {-2, 10, 0}, {-1, 10, 4}, {65, 10, 4}, {66, 10, 0},
            {10, -2, 0}, {10, -1, 1}, {10, 0, 2}, {10, 41, 1}, {10, 42, 0}, {-1, -1, 1}, {32767, 32767, 0}
        };
        for (int[] place : places) {
            Stage m = new Stage();
            square(m, 0);
            m.set(1, place[0]);
            m.set(2, place[1]);
            Load.run(m, Load.DRAW, 0, 0, 1, 2, 128, Load.YIELD);
            check.due("rows at " + place[0] + ", " + place[1], m.about(4), place[2]);
            check.due("shapes at " + place[0] + ", " + place[1], m.about(5), 1);
        }
    }

    /** The pairs go from 0 down to 4, back to 1, and down to 6: rows 0 .. 3, then 1 .. 5. */
    private static void rowsThatAreColouredTwiceCountTwice(Check check) {
        Stage m = new Stage();
        Load.shapes(m, 0, 0xC9, 0, 0, 4, 3, 0, 3, 4, 3, 1, 3, 6, 0, 0, 0, 0);
        Load.run(m, Load.DRAW, 0, 0, 1, 2, 255, Load.YIELD);
        check.due("rows of a polygon that goes back", m.about(4), 9);
        check.due("its last row", m.pixel(0, 3, 5), 9);
        check.due("below it", m.pixel(0, 3, 6), 0);
    }
}
