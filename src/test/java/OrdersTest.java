/** Promise 6: orders. */
public final class OrdersTest {
    private static final Checks C = new Checks();

    public static void main(String[] args) {
        done();
        faults();
        refused();
        C.end("OrdersTest");
    }

    private static void done() {
        MiddleBridge x = new MiddleBridge();
        Checks.plan(x, 0, "2x9");
        Checks.plan(x, 1, "2x9");
        C.due("orders", Checks.orders(x, "l+10;r+0007;s+50;d+60;lb2:255;rb01:0005"), 6);
        C.due("left", x.sideIs(0, 2), 10);
        C.due("right", x.sideIs(1, 2), 7);
        C.due("store", x.count(1), 50);
        C.due("debt", x.count(2), 60);
        C.due("bench left", x.archIs(0, 2, 2), 255);
        C.due("bench right", x.archIs(1, 1, 2), 5);
        C.due("orders", Checks.orders(x, "l-3;r-8;s-51;d-1;lb2:0"), 5);
        C.due("left", x.sideIs(0, 2), 7);
        C.due("right", x.sideIs(1, 2), 0);
        C.due("store", x.count(1), 0);
        C.due("debt", x.count(2), 59);
        C.due("no bench", x.archIs(0, 2, 2), 0);
        C.due("one line behind the other", Checks.orders(x, "l+9999;l+9999;l-1;r-5;r+3"), 5);
        C.due("left", x.sideIs(0, 2), 9998);
        C.due("right", x.sideIs(1, 2), 3);
        for (int i = 0; i < 6; i++) {
            Checks.orders(x, Checks.times("s+9999", 2, ";") + ";" + Checks.times("d+9999", 15, ";"));
        }
        C.due("store", x.count(1), 99999);
        C.due("debt", x.count(2), 59 + 6 * 15 * 9999);
        Checks.orders(x, Checks.times("d+9999", 15, ";"));
        C.due("debt", x.count(2), 999999);
        C.due("a bench that no plan has", Checks.orders(x, "lb20:9"), 1);
        Checks.plan(x, 0, Checks.times("1", 20, ","));
        C.due("it is there by a plan", x.archIs(0, 20, 2), 9);
        C.due("119 bytes", Checks.orders(x, Checks.times("s+001", 20, ";")), 20);
    }

    private static void fault(String text, int answer) {
        MiddleBridge x = new MiddleBridge();
        Checks.orders(x, "l+5;s+6");
        C.due("orders " + text, Checks.orders(x, text), answer);
        C.due(text + ": nothing is done, left", x.sideIs(0, 2), 5);
        C.due(text + ": nothing is done, store", x.count(1), 6);
        C.due(text + ": the tape is empty", x.count(6), 0);
    }

    private static void faults() {
        fault("x", -1000);
        fault("+", -1000);
        fault(" l+1", -1000);
        fault("l", -1001);
        fault("l;", -1001);
        fault("ll+1", -1001);
        fault("l+", -1002);
        fault("l+;", -1002);
        fault("l+1;", -1004);
        fault("l+1;;", -1004);
        fault("l+1,l+1", -1003);
        fault("l+1 ", -1003);
        fault("sb1:1", -1001);
        fault("db1:1", -1001);
        fault("lb", -1002);
        fault("lb:", -1002);
        fault("lb1", -1003);
        fault("lb1;", -1003);
        fault("lb1:", -1004);
        fault("lb1:;", -1004);
        fault("lb1:1:", -1005);
        fault("l+12345", -2006);
        fault("l+00000", -2006);
        fault("s+1;lb00001:1", -2010);
        fault("lb1:00001", -2008);
        fault("lb0:1", -3002);
        fault("lb21:1", -3002);
        fault("lb9999:1", -3002);
        fault("lb21", -3002);
        fault("lb21x", -3002);
        fault("lb1:256", -3004);
        fault("lb1:9999;x", -3004);
        String twenty = Checks.times("l+1", 20, ";");
        fault(twenty + ";l+1", -4080);
        fault(twenty + ";s", -4080);
        fault(twenty + ";d", -4080);
        fault(twenty + ";rx", -4080);
        fault(twenty + ";x", -1080);
        fault(twenty + ";", -1080);
        fault(twenty + "+", -1079);
    }

    private static void refused() {
        MiddleBridge x = new MiddleBridge();
        Checks.feed(x, Checks.bytes("l+1;" + Checks.times("l+1", 40, ";")));
        int before = x.count(6);
        C.due("orders(0)", x.orders(0), -1);
        C.due("orders(-1)", x.orders(-1), -1);
        C.due("orders(121)", x.orders(121), -1);
        C.due("orders(max)", x.orders(Integer.MAX_VALUE), -1);
        C.due("the tape stays", x.count(6), before);
        C.due("orders(3)", x.orders(3), 1);
        C.due("the tape is empty", x.count(6), 0);
        C.due("orders(1) of no tape", x.orders(1), -1);
        C.due("left", x.sideIs(0, 2), 1);
    }
}
