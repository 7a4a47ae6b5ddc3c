/** DRAW: polygons, groups, their colours, places and limits. */
final class ShapeTest {
    private static final int PLAIN = 128;

    public static void main(String[] args) {
        Check check = new Check();
        colours(check);
        drawsIntoTheWorkingPage(check);
        zoomOperands(check);
        edgesOfRows(check);
        negativeZoom(check);
        greatZoom(check);
        rowsThatAreNone(check);
        countsOfPairs(check);
        pairsOfOtherPolygonsAreForgotten(check);
        groupsPlaceParts(check);
        groupColours(check);
        groupsInGroups(check);
        atMostTwoHundred(check);
        otherBytesAreNothing(check);
        bytesGoRound(check);
        check.finish();
    }

    /** Draws the shape at an address of the shapes at x, y, with zoom 64, in a frame of its own. */
    private static Stage draw(Stage m, int address, int x, int y) {
        m.set(1, x);
        m.set(2, y);
        return Load.run(m, Load.DRAW, Load.high(address), Load.low(address), 1, 2, PLAIN, Load.YIELD);
    }

    private static Stage zoomed(Stage m, int x, int y, int zoom) {
        m.set(1, x);
        m.set(2, y);
        m.set(3, zoom);
        return Load.run(m, Load.DRAW, 0, 0, 1, 2, 3, Load.YIELD);
    }

    /** One pixel, without a box. */
    private static void dot(Stage m, int address, int colour) {
        Load.shapes(m, address, 0xC0 | colour, 0, 0, 2, 0, 0, 0, 1, 0, 0);
    }

    private static int pixels(Stage m, int colour) {
        int found = 0;
        for (int y = 0; y < 40; y++) {
            for (int x = 0; x < 64; x++) {
                found += m.pixel(0, x, y) == colour ? 1 : 0;
            }
        }
        return found;
    }

    /** Row y of page 0 has the colour from x to x alone; none if the first is above the second. */
    private static void rowIs(Check check, String of, Stage m, int y, int from, int to, int colour) {
        for (int x = 0; x < 64; x++) {
            check.due(of + ", pixel " + x + ", " + y, m.pixel(0, x, y), x >= from && x <= to ? colour : 0);
        }
    }

    private static void colours(Check check) {
        for (int t = 192; t < 256; t++) {
            Stage m = new Stage();
            Load.run(m, Load.FILL, 0, 3, Load.YIELD);
            Load.shapes(m, 0, t, 0, 0, 2, 0, 0, 0, 1, 0, 0);
            draw(m, 0, 5, 6);
            check.due("colour of " + t, m.pixel(0, 5, 6), t & 15);
            check.due("beside " + t, m.pixel(0, 6, 6), 3);
            check.due("below " + t, m.pixel(0, 5, 7), 3);
            check.due("rows of " + t, m.about(4), 1);
        }
    }

    private static void drawsIntoTheWorkingPage(Check check) {
        Stage m = new Stage();
        dot(m, 0, 9);
        m.set(1, 63);
        m.set(2, 39);
        Load.run(m, Load.PAGE, 2, Load.SHOW, 3, Load.DRAW, 0, 0, 1, 2, PLAIN, Load.YIELD);
        for (int page = 0; page < 4; page++) {
            check.due("page " + page, m.pixel(page, 63, 39), page == 2 ? 9 : 0);
        }
    }

    private static void zoomOperands(Check check) {
        for (int z = 0; z < 256; z++) {
            Stage m = new Stage();
            Load.shapes(m, 0, 0xC1, 0, 0, 2, 20, 0, 20, 1, 0, 0);
            for (int v = 3; v < 32; v++) {
                m.set(v, 64 + 4 * v);
            }
            m.set(0, 192);
            m.set(1, 64);
            m.set(2, 0);
            Load.run(m, Load.DRAW, 0xFC, 0, 0xE2, 0x42, z, Load.YIELD);
            int zoom = z < 128 ? m.get(z & 31) : 64;
            // Variable 2 is a zoom of 0: it draws no row.
            check.due("width with z " + z, pixels(m, 1), zoom == 0 ? 0 : (20 * zoom / 64 + 1) * (zoom / 64));
        }
    }

    private static void edgesOfRows(Check check) {
        Stage m = new Stage();
        // Right goes from 10 to 3, left from 0 to 5, in four rows.
        Load.shapes(m, 0, 0xC7, 10, 4, 2, 10, 0, 3, 4, 0, 5);
        draw(m, 0, 25, 12);
        int[][] edges = {{20, 30}, {21, 28}, {23, 27}, {24, 25}};
        rowIs(check, "above", m, 9, 1, 0, 7);
        for (int j = 0; j < 4; j++) {
            rowIs(check, "slanted", m, 10 + j, edges[j][0], edges[j][1], 7);
        }
        rowIs(check, "below", m, 14, 1, 0, 7);
        check.due("rows", m.about(4), 4);
        // An odd box: DIV(5, 2) is 2, and a zoom of 96 makes 7 of 5, and 3 of that.
        m = new Stage();
        Load.shapes(m, 0, 0xC7, 5, 5, 2, 5, 0, 5, 5, 0, 0);
        zoomed(m, 20, 20, 96);
        rowIs(check, "odd box", m, 16, 1, 0, 7);
        rowIs(check, "odd box", m, 17, 17, 24, 7);
        rowIs(check, "odd box", m, 23, 17, 24, 7);
        rowIs(check, "odd box", m, 24, 1, 0, 7);
    }

    private static void negativeZoom(Check check) {
        Stage m = new Stage();
        // With a zoom below 0 the box goes up and left: rows come from pairs whose y goes down.
        Load.shapes(m, 0, 0xC4, 5, 3, 2, 0, 3, 0, 0, 5, 5);
        zoomed(m, 30, 20, -64);
        // X = 30 - DIV(-5, 2) = 33, Y = 20 - DIV(-3, 2) = 22; left 28, right 33, rows 19 .. 21.
        rowIs(check, "upside down", m, 18, 1, 0, 4);
        rowIs(check, "upside down", m, 19, 28, 33, 4);
        rowIs(check, "upside down", m, 21, 28, 33, 4);
        rowIs(check, "upside down", m, 22, 1, 0, 4);
        // DIV(-3, 64) is -1, not 0: each byte goes one pixel on.
        m = new Stage();
        Load.shapes(m, 0, 0xC4, 0, 0, 2, 0, 3, 0, 0, 1, 1);
        zoomed(m, 30, 20, -1);
        rowIs(check, "a little", m, 19, 29, 30, 4);
        rowIs(check, "a little", m, 20, 1, 0, 4);
    }

    private static void greatZoom(Check check) {
        Stage m = new Stage();
        Load.shapes(m, 0, 0xCB, 0, 0, 2, 255, 0, 255, 255, 0, 0);
        zoomed(m, -32768, -32768, 32767);
        check.due("all pixels", pixels(m, 11), 64 * 40);
        check.due("rows", m.about(4), 40);
        // From 0, 0 down to the right with a slope of one pixel a row, though far more than 65536 long.
        m = new Stage();
        Load.shapes(m, 0, 0xCB, 0, 0, 2, 0, 0, 255, 255, 0, 255);
        zoomed(m, 0, 0, 32767);
        for (int y = 0; y < 40; y++) {
            rowIs(check, "diagonal", m, y, y, y, 11);
        }
        m = new Stage();
        // Left comes from -97793, -97793 and right stays at 32767.
        Load.shapes(m, 0, 0xCB, 0, 0, 2, 0, 255, 0, 0, 255, 0);
        zoomed(m, 32767, 32767, -32768);
        for (int y = 0; y < 40; y++) {
            rowIs(check, "from far away", m, y, y, 63, 11);
        }
    }

    private static void rowsThatAreNone(Check check) {
        Stage m = new Stage();
        // Left is above right in the first two rows of three, and equal in the last.
        Load.shapes(m, 0, 0xC6, 0, 0, 2, 4, 0, 7, 3, 6, 6);
        draw(m, 0, 10, 10);
        check.due("pixels", pixels(m, 6), 1);
        check.due("rows", m.about(4), 1);
        check.due("the last", m.pixel(0, 16, 12), 6);
        m = new Stage();
        // Right goes 4, 5, 6, 7 and left is 6: rows 2 and 3 of four.
        Load.shapes(m, 0, 0xC6, 0, 0, 2, 4, 0, 8, 4, 6, 6);
        draw(m, 0, 10, 10);
        check.due("rows", m.about(4), 2);
        rowIs(check, "crossed", m, 11, 1, 0, 6);
        rowIs(check, "crossed", m, 12, 16, 16, 6);
        rowIs(check, "crossed", m, 13, 16, 17, 6);
        m = new Stage();
        // Neighbours whose y stays or goes up give no row; the next two do again.
        Load.shapes(m, 0, 0xC6, 0, 0, 4, 2, 5, 2, 5, 2, 3, 2, 4, 0, 0, 0, 0);
        draw(m, 0, 10, 10);
        check.due("rows", m.about(4), 1);
        rowIs(check, "up and down", m, 13, 10, 12, 6);
    }

    private static void countsOfPairs(Check check) {
        for (int n = 0; n < 256; n += 5) {
            Stage m = new Stage();
            int pairs = n & 15;
            int[] bytes = new int[4 + 3 * 15];
            bytes[0] = 0xC5;
            bytes[3] = n;
            for (int i = 0; i < pairs; i++) {
                bytes[4 + 2 * i] = 10 + i;
                bytes[5 + 2 * i] = i;
                bytes[4 + 2 * pairs + i] = i;
            }
            Load.shapes(m, 0, bytes);
            draw(m, 0, 20, 10);
            check.due("rows of n " + n, m.about(4), Math.max(0, pairs - 1));
            check.due("pixels of n " + n, pixels(m, 5), 11 * Math.max(0, pairs - 1));
            check.due("shapes of n " + n, m.about(5), 1);
        }
    }

    private static void pairsOfOtherPolygonsAreForgotten(Check check) {
        Stage m = new Stage();
        Load.shapes(m, 0, 0xC5, 0, 0, 3, 1, 0, 1, 1, 1, 30, 0, 0, 0);
        Load.shapes(m, 20, 0xC8, 0, 0, 2, 1, 0, 1, 1, 0, 0);
        draw(m, 0, 10, 5);
        check.due("rows of three pairs", m.about(4), 30);
        draw(m, 20, 40, 5);
        check.due("rows of two pairs", m.about(4), 1);
        check.due("pixels of two pairs", pixels(m, 8), 2);
    }

    private static void groupsPlaceParts(Check check) {
        Stage m = new Stage();
        dot(m, 40, 1);
        dot(m, 60, 2);
        Load.shapes(m, 0, 2, 5, 3, 0xF2, 0, 40, 0, 0, 0x7C, 60, 9, 200);
        draw(m, 0, 20, 10);
        check.due("first part", m.pixel(0, 15, 7), 1);
        check.due("pixels", pixels(m, 1), 1);
        check.due("second part is below the page", pixels(m, 2), 0);
        check.due("rows", m.about(4), 1);
        check.due("shapes", m.about(5), 3);
        draw(m, 0, 20, -190);
        check.due("bytes are never below 0", m.pixel(0, 24, 7), 2);
        // Zoom 96: DIV(5 * 1.5) = 7, DIV(3 * 1.5) = 4; and 9 is 13.
        m = new Stage();
        Load.shapes(m, 40, 0xC1, 0, 0, 2, 0, 0, 0, 1, 0, 0);
        Load.shapes(m, 0, 2, 5, 3, 1, 0, 40, 9, 1);
        zoomed(m, 20, 10, 96);
        check.due("part with zoom 96", m.pixel(0, 20 - 7 + 13, 10 - 4 + 1), 1);
        check.due("pixels", pixels(m, 1), 1);
        // Later parts are drawn over earlier ones.
        m = new Stage();
        dot(m, 40, 1);
        dot(m, 60, 2);
        Load.shapes(m, 0, 2, 0, 0, 2, 0, 60, 0, 0, 0, 40, 0, 0);
        draw(m, 0, 8, 8);
        check.due("the later part", m.pixel(0, 8, 8), 1);
    }

    private static void groupColours(Check check) {
        Stage m = new Stage();
        dot(m, 100, 1);
        // 0: own colour 1; given 12; a group given 7: its parts get 7, or their own 0; then 1 again.
        Load.shapes(m, 0, 2, 0, 0, 4, 0, 100, 0, 0, 0x80, 100, 1, 0, 0xFC, 0x80, 40, 2, 0, 0x47, 0, 100, 5, 0);
        Load.shapes(m, 40, 2, 0, 0, 3, 0, 100, 0, 0, 0xFC, 100, 1, 0, 0x10, 0, 100, 2, 0);
        Load.run(m, Load.FILL, 0, 15, Load.YIELD);
        draw(m, 0, 30, 10);
        int[] want = {1, 12, 7, 0, 7, 1};
        for (int i = 0; i < want.length; i++) {
            check.due("colour of dot " + i, m.pixel(0, 30 + i, 10), want[i]);
        }
        check.due("shapes", m.about(5), 8);
    }

    private static void groupsInGroups(Check check) {
        Stage m = new Stage();
        // Seven groups in one another, each with a dot of its own one pixel to the right.
        for (int g = 0; g < 7; g++) {
            Load.shapes(m, 32 * g, 2, 0, 0, 2, 0x80, 250, 0, 0, g + 1, 0, 32 * (g + 1), 1, 0);
        }
        dot(m, 250, 15);
        draw(m, 0, 10, 10);
        for (int g = 0; g < 7; g++) {
            check.due("dot of group " + g, m.pixel(0, 10 + g, 10), g < 5 ? g + 1 : 0);
        }
        // Five groups and their dots, and the sixth group, which is begun but not drawn.
        check.due("shapes", m.about(5), 11);
        // A polygon within five groups is drawn.
        m = new Stage();
        for (int g = 0; g < 5; g++) {
            Load.shapes(m, 32 * g, 2, 0, 0, 1, 0, 32 * (g + 1), 1, 0);
        }
        dot(m, 160, 13);
        draw(m, 0, 10, 10);
        check.due("dot within five", m.pixel(0, 15, 10), 13);
        check.due("shapes", m.about(5), 6);
    }

    /** A group of 15 groups of 15 parts each would be 241 shapes. */
    private static void atMostTwoHundred(Check check) {
        Stage m = new Stage();
        int[] outer = new int[4 + 15 * 4];
        outer[0] = 2;
        outer[3] = 15;
        for (int i = 0; i < 15; i++) {
            outer[4 + 4 * i] = 1;
            outer[7 + 4 * i] = i;
        }
        Load.shapes(m, 0, outer);
        int[] inner = new int[4 + 15 * 4];
        inner[0] = 2;
        inner[3] = 15;
        for (int i = 0; i < 15; i++) {
            inner[4 + 4 * i] = 2;
            inner[6 + 4 * i] = i;
        }
        Load.shapes(m, 256, inner);
        dot(m, 512, 5);
        draw(m, 0, 0, 0);
        check.due("shapes", m.about(5), 200);
        // 1 and 12 * 16 are 193; the thirteenth group is the 194th, and six dots of it are drawn.
        check.due("rows", m.about(4), 12 * 15 + 6);
        check.due("the 200th", m.pixel(0, 5, 12), 5);
        check.due("the 201st", m.pixel(0, 6, 12), 0);
        check.due("the next group", m.pixel(0, 0, 13), 0);
        // The count is of one DRAW.
        Load.run(m, Load.DRAW, 0, 0, 1, 2, PLAIN, Load.DRAW, 0, 0, 1, 2, PLAIN, Load.YIELD);
        check.due("shapes of two", m.about(5), 400);
        check.due("rows of two", m.about(4), 2 * (12 * 15 + 6));
    }

    private static void otherBytesAreNothing(Check check) {
        for (int t = 0; t < 192; t++) {
            if (t != 2) {
                Stage m = new Stage();
                Load.shapes(m, 0, t, 0, 0, 2, 0, 0, 0, 1, 0, 0);
                draw(m, 0, 5, 5);
                check.due("rows of " + t, m.about(4), 0);
                check.due("shapes of " + t, m.about(5), 1);
                check.due("pixels of " + t, pixels(m, 0), 64 * 40);
                check.due("no fault of " + t, m.channel(0, 3), 0);
            }
        }
    }

    private static void bytesGoRound(Check check) {
        for (int address = 1012; address < 1024; address++) {
            Stage m = new Stage();
            dot(m, address, 6);
            draw(m, address, 9, 9);
            check.due("dot at " + address, m.pixel(0, 9, 9), 6);
            check.due("pixels at " + address, pixels(m, 6), 1);
            m = new Stage();
            dot(m, 500, 6);
            Load.shapes(m, address, 2, 1, 1, 2, 0x81, 0xF4, 3, 3, 8, 1, 0xF4, 5, 5);
            draw(m, address, 9, 9);
            check.due("first part of group at " + address, m.pixel(0, 11, 11), 8);
            check.due("second part of group at " + address, m.pixel(0, 13, 13), 6);
        }
    }
}
