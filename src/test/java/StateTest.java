/** Promises 2, 3, 26 to 30: tilt, feed, seed, keep, undo, check, count. */
public final class StateTest {
    private static final Checks C = new Checks();

    public static void main(String[] args) {
        tilt();
        feed();
        seed();
        keepAndUndo();
        check();
        count();
        C.end("StateTest");
    }

    private static void tilt() {
        MiddleBridge x = new MiddleBridge();
        C.due("tilt(0)", x.tilt(0), true);
        C.due("count(4)", x.count(4), 0);
        C.due("tilt(99999)", x.tilt(99999), true);
        C.due("tilt(7)", x.tilt(7), true);
        C.due("tilt(-1)", x.tilt(-1), false);
        C.due("tilt(100000)", x.tilt(100000), false);
        C.due("count(4)", x.count(4), 7);
    }

    private static void feed() {
        MiddleBridge x = new MiddleBridge();
        C.due("feed", x.feed(0x31303000, 0, 0, 0, -1), 20);
        C.due("plan(0, 2)", x.plan(0, 3), 1);
        C.due("archIs", x.archIs(0, 1, 0), 100);
        C.due("count(6)", x.count(6), 0);
        for (int i = 1; i <= 13; i++) {
            C.due("feed", x.feed(i, i, i, i, i), 20 * i);
        }
        C.due("feed over 260", x.feed(1, 2, 3, 4, 5), -1);
        C.due("count(6)", x.count(6), 260);
        // each int's highest byte stands first
        MiddleBridge y = new MiddleBridge();
        y.feed(0x01020304, 0xF0000000, 0, 0, 0);
        C.due("rowed(5)", y.rowed(5), 1 + 2 * 2 + 240 + 1 + 2 + 3);
    }

    private static void seed() {
        MiddleBridge x = new MiddleBridge();
        C.due("seed(65535)", x.seed(65535), true);
        C.due("count(7)", x.count(7), 65535);
        C.due("seed(65536)", x.seed(65536), false);
        C.due("seed(-1)", x.seed(-1), false);
        C.due("count(7)", x.count(7), 65535);
        C.due("seed(0)", x.seed(0), true);
        x.days(1);
        int drawn = 13849;
        drawn = (25173 * drawn + 13849) % 65536;
        drawn = (25173 * drawn + 13849) % 65536;
        C.due("count(7)", x.count(7), drawn);
        // a side that touches draws no more
        MiddleBridge y = new MiddleBridge();
        Checks.plan(y, 0, "1");
        Checks.orders(y, "l+1");
        y.seed(0);
        y.days(1);
        C.due("count(7)", y.count(7), (25173 * 13849 + 13849) % 65536);
    }

    private static void keepAndUndo() {
        MiddleBridge x = new MiddleBridge();
        C.due("undo()", x.undo(), false);
        Checks.plan(x, 0, "5,5");
        Checks.plan(x, 1, "5,5");
        Checks.law(x, "i9(1=1);n3(1=1);w4(1=1)");
        x.tilt(4);
        Checks.orders(x, "lb1:7;s+20;d+30;l+2;r+1");
        x.days(2);
        int[] was = all(x);
        C.due("keep()", x.keep(), 2);
        Checks.orders(x, "lb1:9;rb2:4;s+99;d-1;l+1;r-1");
        x.days(3);
        x.tilt(77);
        Checks.plan(x, 1, "1,2,3");
        C.due("undo()", x.undo(), true);
        Checks.plan(x, 1, "5,5");
        int[] is = all(x);
        for (int i = 0; i < was.length; i++) {
            C.due("undone " + i, is[i], was[i]);
        }
        C.due("bench right 2", x.archIs(1, 2, 2), 0);
        C.due("tilt stays", x.count(4), 77);
        x.days(9);
        C.due("undo() again", x.undo(), true);
        C.due("day", x.count(0), 2);
        x.days(1);
        C.due("keep()", x.keep(), 3);
        x.days(1);
        x.undo();
        C.due("day", x.count(0), 3);
    }

    private static int[] all(MiddleBridge x) {
        return new int[] {x.sideIs(0, 2), x.sideIs(1, 2), x.archIs(0, 1, 2), x.count(0), x.count(1), x.count(2),
            x.count(3), x.count(7)};
    }

    private static void check() {
        MiddleBridge x = new MiddleBridge();
        C.due("check() of no tape", x.check(), -2);
        Checks.plan(x, 0, "2x5");
        Checks.plan(x, 1, "3x1");
        Checks.orders(x, "l+5;r+2;s+515");
        int[][] rows = {{1, 2, 0, 3}, {2, 2, 0, 3}, {1, 1, 0, 3}, {1, 2, 1, 3}, {1, 2, 0, 2}, {9, 9, 9, 9}, {1, 9, 9, 9}};
        int[] due = {-1, 0, 1, 2, 3, 0, 1};
        for (int i = 0; i < rows.length; i++) {
            Checks.feed(x, rows[i]);
            C.due("check() " + i, x.check(), due[i]);
            C.due("the tape is empty", x.count(6), 0);
        }
    }

    private static void count() {
        MiddleBridge x = new MiddleBridge();
        Checks.plan(x, 0, "5,5");
        Checks.plan(x, 1, "5,5");
        Checks.law(x, "w0(1=1);w1(1=1)");
        Checks.orders(x, "s+12;d+34;l+10;r+5");
        x.tilt(3);
        C.due("count(8)", x.count(8), 10);
        x.days(1);
        int[] due = {1, 12, 34, 1, 3, 2, 0};
        for (int what = 0; what < due.length; what++) {
            C.due("count(" + what + ")", x.count(what), due[what]);
        }
        C.due("count(8)", x.count(8), 0);
        int[] others = {-1, 9, Integer.MIN_VALUE, Integer.MAX_VALUE};
        for (int what : others) {
            C.due("count(" + what + ")", x.count(what), -1);
        }
        for (int i = 0; i < 42; i++) {
            x.days(240);
        }
        C.due("the last day", x.count(0), 9999);
        int drawn = x.count(7);
        C.due("days(1)", x.days(1), 0);
        C.due("no draw", x.count(7), drawn);
        C.due("the last day", x.count(0), 9999);
    }
}
