import com.sun.management.ThreadMXBean;
import java.lang.management.ManagementFactory;

/** What some 500 of the dearest calls make: next to nothing, as the rows of a bridge are used again. */
public final class RoomTest {
    private static final Checks C = new Checks();
    private static final ThreadMXBean THREADS = (ThreadMXBean) ManagementFactory.getThreadMXBean();

    public static void main(String[] args) {
        calls(prepared());
        MiddleBridge x = prepared();
        long made = made(() -> calls(x));
        C.due("bytes made by some 500 calls: " + made, made < 20000, true);
        long object = made(MiddleBridge::new);
        C.due("bytes made by a new object: " + object, object < 40000, true);
        C.end("RoomTest");
    }

    private static MiddleBridge prepared() {
        MiddleBridge x = new MiddleBridge();
        String law = "w9(" + Checks.times("e*a+b-g*[h+s]/[k+1]%[t+1]<r", 4, "|") + ");w3+" + Checks.times("r", 30, "*")
            + "(1=1);i9(1=1);n1(1=1);x(r=9)";
        C.due("law", Checks.law(x, law), 5);
        C.due("plan", Checks.plan(x, 0, "9x99,9x99,2x99"), 20);
        C.due("plan", Checks.plan(x, 1, "9x99,9x99,2x99"), 20);
        C.due("orders", Checks.orders(x, "l+99;r+99"), 2);
        return x;
    }

    private static long made(Runnable what) {
        long before = THREADS.getCurrentThreadAllocatedBytes();
        what.run();
        return THREADS.getCurrentThreadAllocatedBytes() - before;
    }

    private static void calls(MiddleBridge x) {
        for (int i = 0; i < 13; i++) {
            x.keep();
            x.days(240);
            x.undo();
            x.tried(240, 2);
            x.touches(240, 0);
            x.ahead(240);
            x.beyond(240, 999999);
            x.feed(0x01020304, 0x05060708, 0x090a0b0c, 0x0d0e0f10, 0x11121314);
            x.even(8, 0);
            x.feed(-1, -1, -1, -1, -1);
            x.piles(60, 1, 0);
            x.feed(-1, -1, -1, -1, -1);
            x.lamps(12, 0, 0);
            x.feed(0x01020304, 0x05060708, 0x090a0b0c, 0x0d0e0f10, 0x11121314);
            x.claims(10, 0);
            x.feed(-1, -1, -1, -1, -1);
            x.rowed(10);
            x.feed(0, 0, 0, 0, 0);
            x.wed(1, 0);
            x.feed(0x05040302, 0x01000000, 0, 0, 0);
            x.changes(6);
            x.dialect(8, 1, 0);
            x.owed(1, 0);
            x.inARow();
            x.leastSpeed(200, 99, 0, 20);
            x.feed(0x77392831, 0x3d312900, 0, 0, 0);
            x.law(7);
            x.feed(0x3978392c, 0x39783900, 0, 0, 0);
            x.plan(0, 7);
            x.feed(0x6c2b3900, 0, 0, 0, 0);
            x.orders(3);
            x.check();
        }
    }
}
