/** Promise 1. */
public final class NewObjectTest {
    public static void main(String[] args) {
        Checks c = new Checks();
        MiddleBridge x = new MiddleBridge();
        c.due("NONE", MiddleBridge.NONE, -1);
        int[] counts = {0, 0, 0, 0, 99999, 0, 0, 1, 0};
        for (int what = 0; what < counts.length; what++) {
            c.due("count(" + what + ")", x.count(what), counts[what]);
        }
        for (int side = 0; side < 2; side++) {
            for (int what = 0; what < 7; what++) {
                c.due("sideIs(" + side + ", " + what + ")", x.sideIs(side, what), 0);
            }
            c.due("archIs", x.archIs(side, 1, 0), -1);
        }
        c.due("undo()", x.undo(), false);
        c.due("check()", x.check(), -2);
        c.due("inARow()", x.inARow(), 1);
        c.due("days(1)", x.days(1), 0);
        // a DAY of a new object draws three times, as no side touches
        int drawn = 1;
        for (int i = 0; i < 3; i++) {
            drawn = (25173 * drawn + 13849) % 65536;
        }
        c.due("count(7)", x.count(7), drawn);
        c.end("NewObjectTest");
    }
}
