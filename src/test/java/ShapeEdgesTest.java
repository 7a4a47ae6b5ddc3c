import java.util.Arrays;

/** Terms, shapes: each sentence that names a boundary case has a test of its own. */
final class ShapeEdgesTest {
    private static final int DOT = 600;
    private static final int[] NOTHING = {};

    public static void main(String[] args) {
        Check check = new Check();
        bytesBehindTheLast(check);
        zoomHasASign(check);
        zoomOfNothing(check);
        firstBytesOfPolygons(check);
        otherFirstBytes(check);
        ownColourByFourBits(check);
        givenColourOfZero(check);
        pairsByFourBits(check);
        boxBeginsByHalf(check);
        bytesAreScaledDown(check);
        heightsOfNone(check);
        lastRowIsLeftOut(check);
        pairsBehindTheLastAreNone(check);
        stepsAreRoundedDown(check);
        edgesAreRoundedDown(check);
        firstNotAboveSecond(check);
        leftAndRightOfThePage(check);
        aboveAndBelowThePage(check);
        partsByFourBits(check);
        partAddressesByTenBits(check);
        partColoursByFourBits(check);
        coloursGivenToGroups(check);
        groupsArePlacedByRoundingDown(check);
        partsArePlacedByRoundingDown(check);
        partsHaveTheSameZoom(check);
        partsAreDrawnInOrder(check);
        groupsWithinFive(check);
        groupsWithinThemselves(check);
        twoHundredShapes(check);
        twoHundredOfEachDraw(check);
        placesAreNotWrapped(check);
        farEdgesAreExact(check);
        check.finish();
    }

    private static Stage draw(Stage m, int address, int x, int y, int zoom) {
        m.set(1, x);
        m.set(2, y);
        m.set(3, zoom);
        return Load.run(m, Load.DRAW, Load.high(address), Load.low(address), 1, 2, 3, Load.YIELD);
    }

    private static Stage drawn(int x, int y, int zoom, int... shape) {
        Stage m = new Stage();
        Load.shapes(m, 0, shape);
        return draw(m, 0, x, y, zoom);
    }

    /** One pixel, whose right and left are at x and whose row is y. */
    private static void dot(Stage m, int address, int colour) {
        Load.shapes(m, address, 0xC0 | colour, 0, 0, 2, 0, 0, 0, 1, 0, 0);
    }

    /** Page 0 has the colour in these spans, each of a row, a first and a last x, and 0 elsewhere. */
    private static void spansAre(Check check, String of, Stage m, int colour, int... spans) {
        int[][] want = new int[40][64];
        for (int i = 0; i < spans.length; i += 3) {
            for (int x = spans[i + 1]; x <= spans[i + 2]; x++) {
                want[spans[i]][x] = colour;
            }
        }
        for (int y = 0; y < 40; y++) {
            for (int x = 0; x < 64; x++) {
                check.due(of + ", pixel " + x + ", " + y, m.pixel(0, x, y), want[y][x]);
            }
        }
        check.due(of + ", rows", m.about(4), spans.length / 3);
    }

    /** "A SHAPE at an address (bytes behind the last of all are the first ones again)" */
    private static void bytesBehindTheLast(Check check) {
        int[] polygon = {0xC4, 2, 2, 3, 5, 0, 6, 1, 7, 2, 0, 1, 2};
        int[] group = {2, 1, 1, 3, 2, 88, 3, 4, 0x82, 88, 5, 6, 9, 2, 88, 7, 8};
        for (int at = 1023; at > 1023 - polygon.length; at--) {
            Stage m = new Stage();
            Load.shapes(m, at, polygon);
            draw(m, at, 11, 21, 64);
            spansAre(check, "polygon at " + at, m, 4, 20, 10, 15, 21, 11, 16);
        }
        for (int at = 1023; at > 1023 - group.length; at--) {
            Stage m = new Stage();
            Load.shapes(m, at, group);
            dot(m, DOT, 4);
            draw(m, at, 11, 21, 64);
            check.due("first part of the group at " + at, m.pixel(0, 13, 24), 4);
            check.due("second part of the group at " + at, m.pixel(0, 15, 26), 9);
            check.due("third part of the group at " + at, m.pixel(0, 17, 28), 4);
            check.due("shapes", m.about(5), 4);
            check.due("rows", m.about(4), 3);
        }
    }

    /** "with a zoom (as a number of 16 bits with a sign)" */
    private static void zoomHasASign(Check check) {
        // A byte of 1 is 511 pixels with the greatest zoom, and -512 with the least.
        spansAre(check, "zoom 32767", drawn(5, 5, 32767, 0xC1, 0, 0, 2, 1, 0, 1, 1, 0, 0), 1, allRows(5, 5));
        spansAre(check, "zoom -32768", drawn(62, 38, -32768, 0xC1, 0, 0, 2, 0, 1, 0, 0, 1, 1), 1, rowsTo(37, 62));
    }

    /** All rows from the first on, from an x to the end. */
    private static int[] allRows(int first, int from) {
        int[] spans = new int[3 * (40 - first)];
        for (int i = 0; i < 40 - first; i++) {
            spans[3 * i] = first + i;
            spans[3 * i + 1] = from;
            spans[3 * i + 2] = 63;
        }
        return spans;
    }

    /** All rows to the last, from 0 to an x. */
    private static int[] rowsTo(int last, int to) {
        int[] spans = new int[3 * (last + 1)];
        for (int i = 0; i <= last; i++) {
            spans[3 * i] = i;
            spans[3 * i + 2] = to;
        }
        return spans;
    }

    /** A zoom of 0 makes all heights 0. */
    private static void zoomOfNothing(Check check) {
        Stage m = drawn(9, 9, 0, 0xC1, 255, 255, 2, 255, 0, 255, 255, 0, 0);
        spansAre(check, "zoom 0", m, 1, NOTHING);
        check.due("is begun", m.about(5), 1);
    }

    /** "its first byte t: 192 .. 255: a POLYGON" */
    private static void firstBytesOfPolygons(Check check) {
        for (int t : new int[] {193, 207, 209, 223, 225, 241, 254, 255}) {
            spansAre(check, "first byte " + t, drawn(5, 6, 64, t, 0, 0, 2, 0, 0, 0, 1, 0, 0), t & 15, 6, 5, 5);
        }
        for (int t : new int[] {0, 1, 3, 65, 127, 128, 129, 190, 191}) {
            spansAre(check, "first byte " + t, drawn(5, 6, 64, t, 0, 0, 2, 0, 0, 0, 1, 0, 0), 0, NOTHING);
        }
    }

    /** "Any other byte: nothing." */
    private static void otherFirstBytes(Check check) {
        for (int t : new int[] {0, 1, 3, 4, 34, 66, 127, 128, 130, 191}) {
            Stage m = new Stage();
            // As a part of a group, between two others, and shaped as a group too.
            Load.shapes(m, 0, 2, 0, 0, 3, 2, 88, 0, 0, 1, 0, 1, 0, 2, 88, 2, 0);
            Load.shapes(m, 256, t, 0, 0, 1, 2, 88, 0, 0);
            dot(m, DOT, 9);
            draw(m, 0, 5, 6, 64);
            check.due("before " + t, m.pixel(0, 5, 6), 9);
            check.due("part of " + t, m.pixel(0, 6, 6), 0);
            check.due("behind " + t, m.pixel(0, 7, 6), 9);
            check.due("rows", m.about(4), 2);
            check.due("no fault", m.channel(0, 3), 0);
            check.due("the turn went on", m.about(3), 2);
        }
    }

    /** "its colour is that given, or else t's lowest 4 bits" */
    private static void ownColourByFourBits(Check check) {
        for (int t : new int[] {192, 199, 207, 208, 223, 224, 240, 255}) {
            Stage m = Load.ran(Load.FILL, 0, 6, Load.YIELD);
            Load.shapes(m, 0, t, 0, 0, 2, 0, 0, 0, 1, 0, 0);
            draw(m, 0, 63, 39, 64);
            check.due("colour of " + t, m.pixel(0, 63, 39), t % 16);
            check.due("beside", m.pixel(0, 62, 39), 6);
        }
    }

    /** "a colour that may be given": 0 is one, too */
    private static void givenColourOfZero(Check check) {
        Stage m = Load.ran(Load.FILL, 0, 6, Load.YIELD);
        Load.shapes(m, 0, 2, 0, 0, 2, 0x82, 88, 0, 0, 0, 2, 88, 1, 0);
        dot(m, DOT, 9);
        draw(m, 0, 5, 6, 64);
        check.due("given 0", m.pixel(0, 5, 6), 0);
        check.due("none given", m.pixel(0, 6, 6), 9);
    }

    /** "a byte: how many pairs n (lowest 4 bits)" */
    private static void pairsByFourBits(Check check) {
        for (int n : new int[] {0, 1, 2, 3, 14, 15, 16, 17, 18, 31, 32, 130, 240, 255}) {
            int pairs = n % 16;
            int[] shape = new int[4 + 3 * 15];
            shape[0] = 0xC8;
            shape[3] = n;
            for (int i = 0; i < pairs; i++) {
                shape[4 + 2 * i] = 20 + i;
                shape[5 + 2 * i] = i;
                shape[4 + 2 * pairs + i] = 2 * i;
            }
            int rows = Math.max(0, pairs - 1);
            int[] spans = new int[3 * rows];
            for (int i = 0; i < rows; i++) {
                spans[3 * i] = 10 + i;
                spans[3 * i + 1] = 2 * i;
                spans[3 * i + 2] = 20 + i;
            }
            spansAre(check, "n of " + n, drawn(0, 10, 64, shape), 8, spans);
        }
    }

    /** "Its box begins at X = x - DIV(DIV(w * zoom, 64), 2), Y = y - DIV(DIV(h * zoom, 64), 2)" */
    private static void boxBeginsByHalf(Check check) {
        // A length of the box, a zoom, and by how much the box begins before x or y.
        int[][] rows = {
            {0, 64, 0}, {1, 64, 0}, {2, 64, 1}, {3, 64, 1}, {4, 64, 2}, {255, 64, 127}, {1, 63, 0}, {2, 63, 0},
            {3, 63, 1}, {1, 127, 0}, {1, 128, 1}, {255, 8191, 16318}, {255, 8192, 16320},
            {1, -64, -1}, {2, -64, -1}, {3, -64, -2}, {255, -64, -128}, {1, -1, -1}, {64, -1, -1}, {65, -1, -1},
            {128, -1, -1}, {129, -1, -2}, {255, -8191, -16319}, {255, -8192, -16320}
        };
        for (int[] row : rows) {
            // A column of at least three rows, above Y with a zoom below 0; only its end at Y is looked at.
            boolean down = row[1] > 0;
            int first = down ? 0 : 255;
            int end = down ? 20 : 19;
            String of = "box of " + row[0] + " with zoom " + row[1];
            Stage m = drawn(30 + row[2], 20, row[1], 0xC2, row[0], 0, 2, 0, first, 0, 255 - first, 0, 0);
            columnIs(check, of, m, 30, end, down ? -1 : 1);
            m = drawn(30, 20 + row[2], row[1], 0xC2, 0, row[0], 2, 0, first, 0, 255 - first, 0, 0);
            columnIs(check, of, m, 30, end, down ? -1 : 1);
        }
    }

    /** A column of colour 2 has its last pixel here, and the row beyond it has none. */
    private static void columnIs(Check check, String of, Stage m, int x, int y, int beyond) {
        check.due(of + ", its end", m.pixel(0, x, y), 2);
        check.due(of + ", left of it", m.pixel(0, x - 1, y), 0);
        check.due(of + ", right of it", m.pixel(0, x + 1, y), 0);
        check.due(of + ", beyond it", m.pixel(0, x, y + beyond), 0);
    }

    /** "a byte b of x or y is at X (Y) + DIV(b * zoom, 64)" */
    private static void bytesAreScaledDown(Check check) {
        // A byte, a zoom, and where it is.
        int[][] rows = {
            {0, 64, 0}, {1, 64, 1}, {30, 64, 30}, {63, 1, 0}, {64, 1, 1}, {127, 1, 1}, {128, 1, 2}, {255, 1, 3},
            {1, 63, 0}, {2, 63, 1}, {30, 65, 30}, {1, 65, 1}, {1, 1920, 30}, {1, 1983, 30},
            {0, -1, 0}, {1, -1, -1}, {64, -1, -1}, {65, -1, -2}, {255, -1, -4}, {1, -63, -1}, {2, -63, -2},
            {2, -65, -3}, {30, -64, -30}, {1, -1921, -31}
        };
        for (int[] row : rows) {
            String of = "byte " + row[0] + " with zoom " + row[1];
            boolean down = row[1] > 0;
            int first = down ? 0 : 255;
            int last = 255 - first;
            int to = 32 + row[2];
            // As right and left x: a column at it, one row of which is looked at.
            Stage m = drawn(32, 20, row[1], 0xC2, 0, 0, 2, row[0], first, row[0], last, row[0], row[0]);
            columnIs(check, of + " as x", m, to, down ? 20 : 19, down ? -1 : 1);
            // As y: the column has no row but those between it and Y.
            m = drawn(5, 20, row[1], 0xC2, 0, 0, 2, 0, down ? 0 : row[0], 0, down ? row[0] : 0, 0, 0);
            int from = Math.max(0, Math.min(20, 20 + row[2]));
            int end = Math.min(40, Math.max(20, 20 + row[2]));
            for (int y = 0; y < 40; y++) {
                check.due(of + " as y, row " + y, m.pixel(0, 5, y), y >= from && y < end ? 2 : 0);
            }
        }
    }

    /** "H = Y(i+1) - Yi; if H is above 0" */
    private static void heightsOfNone(Check check) {
        spansAre(check, "H of 0", drawn(5, 6, 64, 0xC3, 0, 0, 2, 4, 7, 4, 7, 0, 0), 3, NOTHING);
        spansAre(check, "H of -1", drawn(5, 6, 64, 0xC3, 0, 0, 2, 4, 8, 4, 7, 0, 0), 3, NOTHING);
        spansAre(check, "H of -255", drawn(5, 6, 64, 0xC3, 0, 0, 2, 4, 255, 4, 0, 0, 0), 3, NOTHING);
        spansAre(check, "H of 1", drawn(5, 6, 64, 0xC3, 0, 0, 2, 4, 7, 4, 8, 0, 0), 3, 13, 5, 9);
        // The pairs behind one of no height go on from their own.
        spansAre(check, "H of 0, then 2", drawn(5, 6, 64, 0xC3, 0, 0, 3, 4, 7, 6, 7, 6, 9, 0, 1, 1), 3,
            13, 6, 11, 14, 6, 11);
        spansAre(check, "H of -2, then 1", drawn(5, 6, 64, 0xC3, 0, 0, 3, 4, 7, 6, 5, 6, 6, 0, 1, 1), 3, 11, 6, 11);
        // With a zoom below 0, y that go down are heights above 0.
        spansAre(check, "H of 1", drawn(9, 20, -64, 0xC3, 0, 0, 2, 0, 8, 0, 7, 4, 4), 3, 12, 5, 9);
    }

    /** "the row Yi + j, for j 0 .. H - 1" */
    private static void lastRowIsLeftOut(Check check) {
        spansAre(check, "two rows", drawn(5, 6, 64, 0xC3, 0, 0, 2, 2, 0, 2, 2, 0, 0), 3, 6, 5, 7, 7, 5, 7);
        // Where two parts meet, the row is the second's.
        spansAre(check, "one row, and one", drawn(5, 6, 64, 0xC3, 0, 0, 3, 2, 0, 9, 1, 9, 2, 0, 4, 4), 3,
            6, 5, 7, 7, 9, 14);
    }

    /** "For each two neighbouring pairs": the last has no neighbour behind it, whatever was drawn before. */
    private static void pairsBehindTheLastAreNone(Check check) {
        Stage m = new Stage();
        Load.shapes(m, 0, 2, 0, 0, 2, 2, 88, 0, 0, 0, 40, 20, 0);
        Load.shapes(m, DOT, 0xC3, 0, 0, 4, 1, 0, 1, 1, 1, 2, 1, 3, 0, 0, 0, 0);
        Load.shapes(m, 40, 0xC3, 0, 0, 2, 1, 0, 1, 1, 0, 0, 1, 9, 1, 12);
        spansAre(check, "two pairs behind four", draw(m, 0, 5, 6, 64), 3, 6, 5, 6, 7, 5, 6, 8, 5, 6, 6, 25, 26);
        spansAre(check, "one pair", drawn(5, 6, 64, 0xC3, 0, 0, 1, 1, 0, 1, 1, 0, 0), 3, NOTHING);
    }

    /** "j * DIV(65536 * (L(i+1) - Li), H)" and "the same of R" */
    private static void stepsAreRoundedDown(Check check) {
        // In six rows by -1: three steps of -10923 are one more than half. By 1: three of 10922 are less.
        spansAre(check, "left down, right up", drawn(0, 0, 64, 0xC3, 0, 0, 2, 20, 0, 21, 6, 10, 9), 3,
            0, 10, 20, 1, 10, 20, 2, 10, 20, 3, 9, 20, 4, 9, 21, 5, 9, 21);
        spansAre(check, "left up, right down", drawn(0, 0, 64, 0xC3, 0, 0, 2, 20, 0, 19, 6, 10, 11), 3,
            0, 10, 20, 1, 10, 20, 2, 10, 20, 3, 10, 19, 4, 11, 19, 5, 11, 19);
        // In two rows by 1: one step is half, and that is the next pixel; by -1 it is not.
        spansAre(check, "by halves", drawn(0, 0, 64, 0xC3, 0, 0, 2, 20, 0, 21, 2, 10, 11), 3, 0, 10, 20, 1, 11, 21);
        spansAre(check, "by halves", drawn(0, 0, 64, 0xC3, 0, 0, 2, 20, 0, 19, 2, 10, 9), 3, 0, 10, 20, 1, 10, 20);
    }

    /** "DIV(65536 * Li + 32768 + [..], 65536)": below 0, too */
    private static void edgesAreRoundedDown(Check check) {
        spansAre(check, "right at -1", drawn(-6, 5, 64, 0xC3, 0, 0, 2, 5, 0, 5, 2, 1, 1), 3, NOTHING);
        spansAre(check, "right at 0", drawn(-5, 5, 64, 0xC3, 0, 0, 2, 5, 0, 5, 2, 1, 1), 3, 5, 0, 0, 6, 0, 0);
        // Right goes from -1 to 1 in four rows: -1, 0 (from half on), 0, 1.
        spansAre(check, "right over 0", drawn(-6, 5, 64, 0xC3, 0, 0, 2, 5, 0, 7, 4, 1, 1), 3,
            6, 0, 0, 7, 0, 0, 8, 0, 1);
    }

    /** "if the first is not above the second" */
    private static void firstNotAboveSecond(Check check) {
        spansAre(check, "below", drawn(5, 6, 64, 0xC3, 0, 0, 2, 3, 0, 3, 1, 2, 2), 3, 6, 7, 8);
        spansAre(check, "equal", drawn(5, 6, 64, 0xC3, 0, 0, 2, 3, 0, 3, 1, 3, 3), 3, 6, 8, 8);
        spansAre(check, "above", drawn(5, 6, 64, 0xC3, 0, 0, 2, 3, 0, 3, 1, 4, 4), 3, NOTHING);
        // They cross in the third of four rows.
        spansAre(check, "crossing", drawn(5, 6, 64, 0xC3, 0, 0, 2, 4, 0, 0, 4, 0, 4), 3, 6, 5, 9, 7, 6, 8, 8, 7, 7);
        spansAre(check, "far apart, crossed", drawn(0, 6, 64, 0xC3, 0, 0, 2, 0, 0, 0, 2, 63, 63), 3, NOTHING);
    }

    /** "as far as they are on the page": from 0 to 63 */
    private static void leftAndRightOfThePage(Check check) {
        int[][] rows = {
            {-4, 0, -1}, {-3, 0, 0}, {-2, 0, 1}, {-1, 0, 2}, {0, 0, 3}, {60, 60, 63}, {61, 61, 63}, {62, 62, 63},
            {63, 63, 63}, {64, 0, -1}, {65, 0, -1}, {-32768, 0, -1}, {32767, 0, -1}
        };
        for (int[] row : rows) {
            Stage m = drawn(row[0], 6, 64, 0xC3, 0, 0, 2, 3, 0, 3, 1, 0, 0);
            int[] spans = {6, row[1], row[2]};
            spansAre(check, "x of " + row[0], m, 3, row[2] < 0 ? NOTHING : spans);
        }
        spansAre(check, "on both sides", drawn(-9, 6, 64, 0xC3, 0, 0, 2, 200, 0, 200, 1, 0, 0), 3, 6, 0, 63);
    }

    /** "as far as they are on the page": from row 0 to row 39 */
    private static void aboveAndBelowThePage(Check check) {
        int[][] rows = {
            {-3, 0, -1}, {-2, 0, 0}, {-1, 0, 1}, {0, 0, 2}, {37, 37, 39}, {38, 38, 39}, {39, 39, 39},
            {40, 0, -1}, {41, 0, -1}, {-32768, 0, -1}, {32767, 0, -1}
        };
        for (int[] row : rows) {
            Stage m = drawn(7, row[0], 64, 0xC3, 0, 0, 2, 0, 0, 0, 3, 0, 0);
            int[] spans = new int[3 * (row[2] - row[1] + 1)];
            for (int i = 0; 3 * i < spans.length; i++) {
                spans[3 * i] = row[1] + i;
                spans[3 * i + 1] = 7;
                spans[3 * i + 2] = 7;
            }
            spansAre(check, "y of " + row[0], m, 3, spans);
        }
        // What lies above the page still moves the edges: row 0 is the eleventh.
        spansAre(check, "a slope from above", drawn(0, -10, 64, 0xC3, 0, 0, 2, 10, 0, 22, 12, 10, 22), 3,
            0, 20, 20, 1, 21, 21);
        for (int page = 1; page < 4; page++) {
            Stage m = drawn(7, 38, 64, 0xC3, 0, 0, 2, 255, 0, 255, 255, 0, 0);
            check.due("page " + page + " stays", m.pixel(page, 7, 0), 0);
        }
    }

    /** "2: a GROUP: [..] a byte: how many parts n (lowest 4 bits)" */
    private static void partsByFourBits(Check check) {
        for (int n : new int[] {0, 1, 2, 14, 15, 16, 17, 31, 128, 240, 255}) {
            int parts = n % 16;
            int[] group = new int[4 + 4 * 16];
            group[0] = 2;
            group[3] = n;
            for (int i = 0; i < 16; i++) {
                group[4 + 4 * i] = 2;
                group[5 + 4 * i] = 88;
                group[6 + 4 * i] = i;
            }
            Stage m = new Stage();
            Load.shapes(m, 0, group);
            dot(m, DOT, 3);
            draw(m, 0, 8, 9, 64);
            check.due("shapes of " + n, m.about(5), 1 + parts);
            check.due("rows of " + n, m.about(4), parts);
            for (int i = 0; i < 16; i++) {
                check.due("part " + i + " of " + n, m.pixel(0, 8 + i, 9), i < parts ? 3 : 0);
            }
        }
    }

    /** "a", in a part, is "two bytes whose lowest 10 bits are an address" */
    private static void partAddressesByTenBits(Check check) {
        int[][] rows = {{2, 88}, {6, 88}, {66, 88}, {0x7E, 88}};
        for (int[] row : rows) {
            Stage m = new Stage();
            Load.shapes(m, 0, 2, 0, 0, 2, row[0], row[1], 1, 0, 2, 88, 2, 0);
            dot(m, DOT, 3);
            twoDotsAre(check, "part at " + row[0] + ", " + row[1], draw(m, 0, 8, 9, 64), 3, 3);
            // With bit 15 there is one byte more.
            m = new Stage();
            Load.shapes(m, 0, 2, 0, 0, 2, row[0] | 128, row[1], 1, 0, 5, 2, 88, 2, 0);
            dot(m, DOT, 3);
            twoDotsAre(check, "part at " + (row[0] | 128) + ", " + row[1], draw(m, 0, 8, 9, 64), 5, 3);
        }
        Stage m = new Stage();
        Load.shapes(m, 40, 2, 0, 0, 2, 0x7F, 255, 1, 0, 0x7C, 0, 2, 0);
        dot(m, 1023, 3);
        // The dot at 1023 goes on at 0: a shape at 0 has w, and is no shape.
        check.due("parts at 1023 and 0", draw(m, 40, 8, 9, 64).about(5), 3);
        check.due("part at 1023", m.pixel(0, 9, 9), 3);
    }

    /** Two dots, at 9, 9 and 10, 9. */
    private static void twoDotsAre(Check check, String of, Stage m, int first, int second) {
        check.due(of + ", first", m.pixel(0, 9, 9), first);
        check.due(of + ", second", m.pixel(0, 10, 9), second);
        check.due(of + ", rows", m.about(4), 2);
        check.due(of + ", shapes", m.about(5), 3);
    }

    /** "if a's bit 15 is set, a byte whose lowest 4 bits are the colour given to it" */
    private static void partColoursByFourBits(Check check) {
        for (int b : new int[] {0, 1, 15, 16, 31, 127, 128, 240, 255}) {
            Stage m = Load.ran(Load.FILL, 0, 6, Load.YIELD);
            Load.shapes(m, 0, 2, 0, 0, 1, 0x82, 88, 0, 0, b);
            dot(m, DOT, 9);
            draw(m, 0, 8, 9, 64);
            check.due("colour byte " + b, m.pixel(0, 8, 9), b % 16);
        }
    }

    /** "(else the one given to the group is)" */
    private static void coloursGivenToGroups(Check check) {
        Stage m = Load.ran(Load.FILL, 0, 6, Load.YIELD);
        // Groups in one another: none given, 0 given, 0 still, then 5 given, and behind each a dot.
        Load.shapes(m, 0, 2, 0, 0, 2, 0x80, 40, 1, 0, 0, 2, 88, 0, 0);
        Load.shapes(m, 40, 2, 0, 0, 2, 0, 80, 1, 0, 2, 88, 0, 0);
        Load.shapes(m, 80, 2, 0, 0, 2, 0x80, 120, 1, 0, 5, 2, 88, 0, 0);
        Load.shapes(m, 120, 2, 0, 0, 1, 2, 88, 0, 0);
        dot(m, DOT, 9);
        draw(m, 0, 8, 9, 64);
        int[] want = {9, 0, 0, 5, 6};
        for (int i = 0; i < want.length; i++) {
            check.due("dot of group " + i, m.pixel(0, 8 + i, 9), want[i]);
        }
    }

    /** A column from Y on; with a zoom below 0 it stands on Y. */
    private static void column(Stage m, int address, int zoom) {
        int first = zoom > 0 ? 0 : 255;
        Load.shapes(m, address, 0xC2, 0, 0, 2, 0, first, 0, 255 - first, 0, 0);
    }

    /** "It is at x - DIV(dx * zoom, 64), y - DIV(dy * zoom, 64)" */
    private static void groupsArePlacedByRoundingDown(Check check) {
        int[][] rows = {
            {0, 64, 0}, {1, 64, 1}, {255, 64, 255}, {1, 63, 0}, {2, 63, 1}, {63, 1, 0}, {64, 1, 1}, {255, 8191, 32636},
            {1, -1, -1}, {64, -1, -1}, {65, -1, -2}, {1, -63, -1}, {1, -64, -1}, {1, -65, -2}, {255, -8191, -32637}
        };
        for (int[] row : rows) {
            String of = "group of " + row[0] + " with zoom " + row[1];
            int end = row[1] > 0 ? 20 : 19;
            int beyond = row[1] > 0 ? -1 : 1;
            Stage m = new Stage();
            Load.shapes(m, 0, 2, row[0], 0, 1, 2, 88, 0, 0);
            column(m, DOT, row[1]);
            columnIs(check, of, draw(m, 0, 30 + row[2], 20, row[1]), 30, end, beyond);
            m = new Stage();
            Load.shapes(m, 0, 2, 0, row[0], 1, 2, 88, 0, 0);
            column(m, DOT, row[1]);
            columnIs(check, of, draw(m, 0, 30, 20 + row[2], row[1]), 30, end, beyond);
        }
    }

    /** "each part [..] at that + DIV(px * zoom, 64), + DIV(py * zoom, 64)" */
    private static void partsArePlacedByRoundingDown(Check check) {
        int[][] rows = {
            {0, 64, 0}, {1, 64, 1}, {255, 64, 255}, {1, 63, 0}, {2, 63, 1}, {63, 1, 0}, {64, 1, 1}, {255, 8191, 32636},
            {1, -1, -1}, {64, -1, -1}, {65, -1, -2}, {1, -63, -1}, {1, -64, -1}, {1, -65, -2}, {255, -8191, -32637}
        };
        for (int[] row : rows) {
            String of = "part at " + row[0] + " with zoom " + row[1];
            int end = row[1] > 0 ? 20 : 19;
            int beyond = row[1] > 0 ? -1 : 1;
            Stage m = new Stage();
            Load.shapes(m, 0, 2, 0, 0, 1, 2, 88, row[0], 0);
            column(m, DOT, row[1]);
            columnIs(check, of, draw(m, 0, 30 - row[2], 20, row[1]), 30, end, beyond);
            m = new Stage();
            Load.shapes(m, 0, 2, 0, 0, 1, 2, 88, 0, row[0]);
            column(m, DOT, row[1]);
            columnIs(check, of, draw(m, 0, 30, 20 - row[2], row[1]), 30, end, beyond);
        }
    }

    /** "each part, a shape at a, [..] with the same zoom" */
    private static void partsHaveTheSameZoom(Check check) {
        Stage m = new Stage();
        // A row of three pixels is one of five with a zoom of 128, within groups too, and two rows high.
        Load.shapes(m, 0, 2, 1, 1, 1, 0, 40, 2, 3);
        Load.shapes(m, 40, 2, 1, 1, 1, 2, 88, 2, 3);
        Load.shapes(m, DOT, 0xC7, 2, 2, 2, 2, 0, 2, 1, 0, 0);
        // 10 - 2 + 4 - 2 + 4 - 2 = 12, and 10 - 2 + 6 - 2 + 6 - 2 = 16.
        spansAre(check, "zoom 128", draw(m, 0, 10, 10, 128), 7, 16, 12, 16, 17, 12, 16);
    }

    /** "Parts are drawn in order." */
    private static void partsAreDrawnInOrder(Check check) {
        Stage m = new Stage();
        Load.shapes(m, 0, 2, 0, 0, 3, 0x82, 88, 0, 0, 1, 0x80, 40, 0, 0, 2, 0x82, 88, 1, 0, 3);
        Load.shapes(m, 40, 2, 0, 0, 2, 2, 88, 0, 0, 2, 88, 1, 0);
        dot(m, DOT, 9);
        draw(m, 0, 8, 9, 64);
        check.due("the second over the first", m.pixel(0, 8, 9), 2);
        check.due("the third over the second", m.pixel(0, 9, 9), 3);
        check.due("rows of each count", m.about(4), 4);
    }

    /** "A group within five others is not drawn" */
    private static void groupsWithinFive(Check check) {
        // So many groups in one another, each with a dot behind the inner one; the innermost has a dot alone.
        for (int groups = 1; groups <= 8; groups++) {
            Stage m = new Stage();
            for (int g = 0; g < groups; g++) {
                Load.shapes(m, 20 * g, 2, 0, 0, 2, 0, 20 * (g + 1), 1, 0, 2, 88, 0, 0);
            }
            dot(m, 20 * groups, 4);
            dot(m, DOT, 3);
            draw(m, 0, 8, 9, 64);
            for (int g = 0; g < 8; g++) {
                check.due("dot of " + g + " in " + groups, m.pixel(0, 8 + g, 9),
                    g < Math.min(groups, 5) ? 3 : g == groups && groups <= 5 ? 4 : 0);
            }
            // The sixth is begun, though not drawn, and so is a polygon within five.
            check.due("shapes of " + groups, m.about(5), 2 * Math.min(groups, 5) + 1);
            check.due("rows of " + groups, m.about(4), Math.min(groups, 5) + (groups <= 5 ? 1 : 0));
        }
    }

    /** A group that holds itself comes to an end: five are drawn, and a sixth is begun. */
    private static void groupsWithinThemselves(Check check) {
        Stage m = new Stage();
        Load.shapes(m, 0, 2, 0, 0, 2, 2, 88, 0, 0, 0, 0, 1, 0);
        dot(m, DOT, 3);
        spansAre(check, "itself once", draw(m, 0, 8, 9, 64), 3, 9, 8, 8, 9, 9, 9, 9, 10, 10, 9, 11, 11, 9, 12, 12);
        check.due("shapes", m.about(5), 11);
        // All its fifteen parts are itself: the bytes behind are 0.
        m = drawn(8, 9, 64, 2, 0, 0, 15);
        check.due("shapes", m.about(5), 200);
        check.due("rows", m.about(4), 0);
    }

    /** A group of so many dots, in a row from its place on. */
    private static void dots(Stage m, int address, int many) {
        int[] group = new int[4 + 4 * many];
        group[0] = 2;
        group[3] = many;
        for (int i = 0; i < many; i++) {
            group[4 + 4 * i] = 2;
            group[5 + 4 * i] = 88;
            group[6 + 4 * i] = i;
        }
        Load.shapes(m, address, group);
    }

    /** A group, twelve groups of 15 dots, one of so many, and a dot at row 13: 195 and so many shapes. */
    private static Stage shapes(int many) {
        Stage m = new Stage();
        int[] root = new int[4 + 4 * 14];
        root[0] = 2;
        root[3] = 14;
        for (int i = 0; i < 14; i++) {
            root[4 + 4 * i] = i < 12 ? 0 : i == 12 ? 1 : 2;
            root[5 + 4 * i] = i < 12 ? 100 : i == 12 ? 0 : 88;
            root[7 + 4 * i] = i;
        }
        Load.shapes(m, 0, root);
        dots(m, 100, 15);
        dots(m, 256, many);
        dot(m, DOT, 3);
        return m;
    }

    /** "nor is anything once a DRAW has begun 200 shapes" */
    private static void twoHundredShapes(Check check) {
        for (int many = 3; many <= 8; many++) {
            Stage m = draw(shapes(many), 0, 20, 10, 64);
            int all = 195 + many;
            check.due("shapes of " + all, m.about(5), Math.min(200, all));
            int dots = Math.min(12 * 15 + many + 1, 186);
            check.due("rows of " + all, m.about(4), dots);
            check.due("the dot of the twelfth group", m.pixel(0, 34, 21), 3);
            for (int i = 0; i < 8; i++) {
                boolean drawn = i < many && i < 6;
                check.due("dot " + i + " of " + all, m.pixel(0, 20 + i, 22), drawn ? 3 : 0);
            }
            check.due("the last of " + all, m.pixel(0, 20, 23), all <= 200 ? 3 : 0);
        }
    }

    /** "once a DRAW has begun 200 shapes": each DRAW has its own */
    private static void twoHundredOfEachDraw(Check check) {
        Stage m = shapes(15);
        m.set(1, 20);
        m.set(2, 10);
        Load.run(m, Load.DRAW, 0, 0, 1, 2, 128, Load.DRAW, 2, 88, 2, 2, 128, Load.DRAW, 0, 0, 1, 2, 128, Load.YIELD);
        check.due("shapes", m.about(5), 401);
        check.due("rows", m.about(4), 2 * 186 + 1);
        check.due("the dot between", m.pixel(0, 10, 10), 3);
        m.ask(0, 0);
        m.ask(1, 0);
        m.frame(1);
        check.due("shapes of two channels", m.about(5), 400);
    }

    /** "(x, y are ints within a DRAW, not wrapped.)" */
    private static void placesAreNotWrapped(Check check) {
        // A part at 128 is at 65534 with a zoom of 32767: wrapped, it would be at -2.
        int[][] places = {{128, 0, 12, 9}, {0, 128, 12, 9}, {128, 128, 12, 9}};
        for (int[] place : places) {
            Stage m = new Stage();
            Load.shapes(m, 0, 2, 0, 0, 1, 2, 88, place[0], place[1]);
            column(m, DOT, 1);
            spansAre(check, "far away", draw(m, 0, place[2], place[3], 32767), 2, NOTHING);
        }
        // There and back: the group is 130556 to the left, and its part as much to the right.
        Stage m = new Stage();
        Load.shapes(m, 0, 2, 255, 255, 1, 2, 88, 255, 255);
        column(m, DOT, 1);
        draw(m, 0, 12, 9, 32767);
        columnIs(check, "there and back", m, 12, 9, -1);
        // The same by three groups in one another, each twice as far, at the greatest x.
        m = new Stage();
        Load.shapes(m, 0, 2, 0, 0, 1, 0, 40, 255, 255);
        Load.shapes(m, 40, 2, 0, 0, 1, 0, 80, 255, 255);
        Load.shapes(m, 80, 2, 255, 255, 1, 0, 120, 0, 0);
        Load.shapes(m, 120, 2, 255, 255, 1, 2, 88, 0, 0);
        column(m, DOT, 1);
        draw(m, 0, 12, 9, 32767);
        columnIs(check, "far and back", m, 12, 9, -1);
        // A place of 32767 and a box before it.
        for (int far : new int[] {32767, -32768}) {
            m = drawn(far, far, 64, 0xC2, 255, 255, 2, 255, 0, 255, 255, 0, 0);
            spansAre(check, "x and y of " + far, m, 2, NOTHING);
        }
    }

    /** "DIV(65536 * Li + 32768 + j * DIV(65536 * (L(i+1) - Li), H), 65536)": however far the edges are */
    private static void farEdgesAreExact(Check check) {
        int[] diagonal = new int[3 * 40];
        for (int y = 0; y < 40; y++) {
            diagonal[3 * y] = y;
            diagonal[3 * y + 1] = y;
            diagonal[3 * y + 2] = y;
        }
        spansAre(check, "to 130556", drawn(0, 0, 32767, 0xC2, 0, 0, 2, 0, 0, 255, 255, 0, 255), 2, diagonal);
        // From -130560 up to 0: the page begins behind 130560 - 39 rows.
        spansAre(check, "from -130560", drawn(39, 39, -32768, 0xC2, 0, 0, 2, 255, 255, 0, 0, 255, 0), 2,
            Arrays.copyOf(diagonal, 3 * 39));
        // Flat: 130556 to the right in 511 rows, so that the second begins at 255.
        spansAre(check, "flat", drawn(0, 0, 32767, 0xC2, 0, 0, 2, 255, 0, 255, 1, 0, 255), 2, 0, 0, 63);
    }
}
