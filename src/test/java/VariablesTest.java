/** Promises 4 and 5: set and get. */
final class VariablesTest {
    public static void main(String[] args) {
        Check check = new Check();
        Stage m = new Stage();
        for (int v = 0; v < 32; v++) {
            check.due("set(" + v + ", ..)", m.set(v, 100 + v), true);
        }
        for (int v = 0; v < 32; v++) {
            check.due("get(" + v + ")", m.get(v), 100 + v);
        }
        int[][] wraps = {
            {32767, 32767}, {32768, -32768}, {-32768, -32768}, {-32769, 32767}, {65535, -1}, {65536, 0},
            {-65537, -1}, {Integer.MAX_VALUE, -1}, {Integer.MIN_VALUE, 0}, {0x12348000, -32768}
        };
        for (int[] wrap : wraps) {
            check.due("set(7, " + wrap[0] + ")", m.set(7, wrap[0]), true);
            check.due("get(7) behind set(7, " + wrap[0] + ")", m.get(7), wrap[1]);
        }
        for (int v : Load.EXTREMES) {
            if (v < 0 || v > 31) {
                check.due("set(" + v + ", 5)", m.set(v, 5), false);
                check.due("get(" + v + ")", m.get(v), 0);
            }
        }
        check.due("get(0) unchanged", m.get(0), 100);
        check.due("get(31) unchanged", m.get(31), 131);
        check.finish();
    }
}
