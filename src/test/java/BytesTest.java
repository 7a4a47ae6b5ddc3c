/** Promises 2 and 3: put and byteAt. */
final class BytesTest {
    public static void main(String[] args) {
        Check check = new Check();
        highestByteComesFirst(check);
        edgesOfTheBytes(check);
        wrongArguments(check);
        check.finish();
    }

    private static void highestByteComesFirst(Check check) {
        Stage m = new Stage();
        for (int which = 0; which < 2; which++) {
            int v = which == 0 ? 0x01FE7F80 : 0xFF020304;
            check.due("put(" + which + ", 5, ..)", m.put(which, 5, v), true);
            for (int i = -1; i < 5; i++) {
                int want = i < 0 || i > 3 ? 0 : v >> (24 - 8 * i) & 255;
                check.due("byteAt(" + which + ", " + (5 + i) + ")", m.byteAt(which, 5 + i), want);
            }
        }
        check.due("put(0, 7, 0)", m.put(0, 7, 0), true);
        check.due("byteAt(0, 6) kept", m.byteAt(0, 6), 0xFE);
        check.due("byteAt(0, 7) overwritten", m.byteAt(0, 7), 0);
        check.due("byteAt(1, 7) of the shapes", m.byteAt(1, 7), 3);
    }

    private static void edgesOfTheBytes(Check check) {
        Stage m = new Stage();
        for (int which = 0; which < 2; which++) {
            check.due("put(.., 0, ..)", m.put(which, 0, 0x11223344), true);
            check.due("put(.., 1020, ..)", m.put(which, 1020, 0xA1A2A3A4), true);
            check.due("byteAt 0", m.byteAt(which, 0), 0x11);
            check.due("byteAt 1020", m.byteAt(which, 1020), 0xA1);
            check.due("byteAt 1023", m.byteAt(which, 1023), 0xA4);
            check.due("byteAt 1024", m.byteAt(which, 1024), -1);
            check.due("byteAt -1", m.byteAt(which, -1), -1);
            for (int address = 1021; address < 1026; address++) {
                check.due("put at " + address, m.put(which, address, 0), false);
            }
            check.due("put at -1", m.put(which, -1, 0), false);
            check.due("byteAt 0 unchanged", m.byteAt(which, 0), 0x11);
            check.due("byteAt 1023 unchanged", m.byteAt(which, 1023), 0xA4);
        }
    }

    private static void wrongArguments(Check check) {
        for (int a : Load.EXTREMES) {
            Stage m = new Stage();
            for (int b : Load.EXTREMES) {
                boolean bytes = a == 0 || a == 1;
                check.due("put(" + a + ", " + b + ", -1)", m.put(a, b, -1), bytes && b >= 0 && b <= 1020);
                int got = m.byteAt(a, b);
                check.due("byteAt(" + a + ", " + b + ") is one", got != -1, bytes && b >= 0 && b <= 1023);
            }
        }
    }
}
