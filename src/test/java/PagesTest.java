/** Promise 9: pixel; and the instructions PAGE, FILL, COPY and SHOW. */
final class PagesTest {
    private static final int SHOWN = 254;
    private static final int WORKING = 255;

    public static void main(String[] args) {
        Check check = new Check();
        fills(check);
        copies(check);
        pageOperands(check);
        wrongArguments(check);
        check.finish();
    }

    private static void allPixels(Check check, Stage m, int page, int colour) {
        for (int y = 0; y < 40; y++) {
            for (int x = 0; x < 64; x++) {
                check.due("pixel(" + page + ", " + x + ", " + y + ")", m.pixel(page, x, y), colour);
            }
        }
    }

    private static void fills(Check check) {
        Stage m = Load.ran(Load.FILL, 0, 0xF1, Load.FILL, 3, 15, Load.FILL, 0x7D, 0x87, Load.YIELD);
        int[] colours = {1, 7, 0, 15};
        for (int page = 0; page < 4; page++) {
            allPixels(check, m, page, colours[page]);
        }
        check.due("FILL draws no rows", m.about(4), 0);
        Load.run(m, Load.FILL, 3, 16, Load.YIELD);
        allPixels(check, m, 3, 0);
        allPixels(check, m, 0, 1);
    }

    private static void copies(Check check) {
        Stage m = Load.ran(Load.FILL, 2, 9, Load.FILL, 1, 4, Load.COPY, 0, 2, Load.COPY, 3, 3,
            Load.COPY, 2, 1, Load.YIELD);
        int[] colours = {9, 4, 4, 0};
        for (int page = 0; page < 4; page++) {
            allPixels(check, m, page, colours[page]);
        }
        // A copy is of that moment: what comes into page 1 later does not come into page 2.
        Load.run(m, Load.FILL, 1, 5, Load.COPY, 1, 1, Load.YIELD);
        allPixels(check, m, 1, 5);
        allPixels(check, m, 2, 4);
    }

    private static void pageOperands(Check check) {
        for (int p = 0; p < 256; p++) {
            int want = p < 128 ? p & 3 : p == SHOWN ? 2 : 1;
            Stage m = Load.ran(Load.PAGE, 1, Load.SHOW, 2, Load.FILL, p, 6, Load.YIELD);
            for (int page = 0; page < 4; page++) {
                check.due("page " + page + " behind FILL " + p, m.pixel(page, 63, 39), page == want ? 6 : 0);
            }
            m = Load.ran(Load.PAGE, 1, Load.SHOW, 2, Load.PAGE, p, Load.YIELD);
            check.due("working behind PAGE " + p, m.about(0), want);
            check.due("shown behind PAGE " + p, m.about(1), 2);
            m = Load.ran(Load.PAGE, 1, Load.SHOW, 2, Load.SHOW, p, Load.YIELD);
            check.due("working behind SHOW " + p, m.about(0), 1);
            check.due("shown behind SHOW " + p, m.about(1), want);
            m = Load.ran(Load.PAGE, 1, Load.SHOW, 2, Load.FILL, 3, 8, Load.COPY, p, 3, Load.YIELD);
            check.due("COPY to " + p, m.pixel(want, 0, 0), 8);
            m = Load.ran(Load.PAGE, 1, Load.SHOW, 2, Load.FILL, want, 8, Load.COPY, 3, p, Load.YIELD);
            check.due("COPY from " + p, m.pixel(3, 0, 0), 8);
        }
        Stage m = Load.ran(Load.PAGE, 1, Load.SHOW, 2, Load.FILL, SHOWN, 3, Load.FILL, WORKING, 4, Load.YIELD);
        m.frame(1);
        check.due("working stays", m.about(0), 1);
        check.due("shown stays", m.about(1), 2);
    }

    private static void wrongArguments(Check check) {
        Stage m = Load.ran(Load.FILL, 0, 5, Load.FILL, 1, 5, Load.FILL, 2, 5, Load.FILL, 3, 5, Load.YIELD);
        for (int page : Load.EXTREMES) {
            for (int x : Load.EXTREMES) {
                for (int y : Load.EXTREMES) {
                    boolean right = page >= 0 && page < 4 && x >= 0 && x < 64 && y >= 0 && y < 40;
                    check.due("pixel(" + page + ", " + x + ", " + y + ")", m.pixel(page, x, y), right ? 5 : -1);
                }
            }
        }
    }
}
