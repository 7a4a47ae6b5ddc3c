/** Promise 1: all is as at first. */
final class NewObjectTest {
    public static void main(String[] args) {
        Check check = new Check();
        Stage m = new Stage();
        for (int address = 0; address < 1024; address++) {
            check.due("byteAt(0, " + address + ")", m.byteAt(0, address), 0);
            check.due("byteAt(1, " + address + ")", m.byteAt(1, address), 0);
        }
        for (int v = 0; v < 32; v++) {
            check.due("get(" + v + ")", m.get(v), 0);
        }
        int[] atFirst = {-1, 0, 0, 0, -2};
        for (int k = 0; k < 16; k++) {
            for (int what = 0; what < atFirst.length; what++) {
                check.due("channel(" + k + ", " + what + ")", m.channel(k, what), atFirst[what]);
            }
        }
        for (int page = 0; page < 4; page++) {
            for (int y = 0; y < 40; y++) {
                for (int x = 0; x < 64; x++) {
                    check.due("pixel(" + page + ", " + x + ", " + y + ")", m.pixel(page, x, y), 0);
                }
            }
        }
        for (int what = 0; what < 6; what++) {
            check.due("about(" + what + ")", m.about(what), 0);
        }
        check.due("NONE", StageMachine.NONE, -1);
        objectsShareNothing(check);
        check.finish();
    }

    private static void objectsShareNothing(Check check) {
        Stage used = new Stage();
        Stage fresh = new Stage();
        used.put(0, 0, Load.FILL << 24 | 7 << 8);
        used.put(1, 0, -1);
        used.set(3, 9);
        used.ask(0, 0);
        used.frame(1);
        used.ask(1, 5);
        check.due("fresh byteAt(0, 0)", fresh.byteAt(0, 0), 0);
        check.due("fresh byteAt(1, 0)", fresh.byteAt(1, 0), 0);
        check.due("fresh get(3)", fresh.get(3), 0);
        check.due("fresh channel(0, 0)", fresh.channel(0, 0), -1);
        check.due("fresh channel(1, 4)", fresh.channel(1, 4), -2);
        check.due("fresh about(2)", fresh.about(2), 0);
        check.due("fresh pixel", fresh.pixel(0, 0, 0), 0);
    }
}
