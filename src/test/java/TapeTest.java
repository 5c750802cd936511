import java.util.function.ToIntFunction;

/** Promise 3 at its edges, and of each call that reads the tape: how much it reads, and that the tape is empty then. */
public final class TapeTest {
    private static final Checks C = new Checks();

    public static void main(String[] args) {
        grows();
        orderOfBytes();
        fullTextsAreRead();
        emptyThen();
        restIsGone();
        faultsEmptyToo();
        C.end("TapeTest");
    }

    /** "NONE if that would be more than 260": 260 may be, and none of a refused feed's bytes comes. */
    private static void grows() {
        MiddleBridge x = new MiddleBridge();
        C.due("the tape of a new object", x.count(6), 0);
        for (int i = 1; i <= 13; i++) {
            C.due("feed " + i, x.feed(0, 0, 0, 0, 0), 20 * i);
            C.due("count(6)", x.count(6), 20 * i);
        }
        C.due("feed 14", x.feed(0, 0, 0, 0, 0), -1);
        C.due("feed 15", x.feed(0, 0, 0, 0, 0), -1);
        C.due("count(6) of a full tape", x.count(6), 260);
        C.due("it is emptied", x.rowed(1), 0);
        C.due("and grows anew", x.feed(0, 0, 0, 0, 0), 20);
    }

    /** "Twenty bytes come behind the tape, the highest of each int first". */
    private static void orderOfBytes() {
        MiddleBridge x = new MiddleBridge();
        String text = "1,2,3,4,5,6,7,8,9,10";
        Checks.feed(x, Checks.bytes(text + ",11,12,13,14,15,160"));
        C.due("plan of two feeds", x.plan(0, 39), 16);
        for (int i = 1; i <= 15; i++) {
            C.due("arch " + i, x.archIs(0, i, 0), i);
        }
        C.due("arch 16", x.archIs(0, 16, 0), 160);
        int four = '7' << 24 | ',' << 16 | '8' << 8 | ',';
        x.feed(four, four, four, four, '7' << 24 | ',' << 16 | '8' << 8 | '9');
        C.due("plan of five ints", x.plan(0, 20), 10);
        C.due("the last int's lowest byte is the last", x.archIs(0, 10, 0), 89);
        // a byte of 128 and above is no less than 0
        x.feed(0xFFFEFDFC, 0x80818283, 0, 0, 0);
        C.due("rowed(1) of 255", x.rowed(1), 255);
        x.feed(0x00000080, 0x80000000, 0, 0, 0);
        C.due("rowed(2) of 0", x.rowed(2), 0);
        x.feed(0x00000080, 0x80000000, 0, 0, 0);
        C.due("rowed(4) of 0, 0, 0, 128", x.rowed(4), 128);
    }

    /** The longest texts: 80, 120 and 240 bytes. */
    private static void fullTextsAreRead() {
        MiddleBridge x = new MiddleBridge();
        String plan = "(01)," + Checks.times("005", 19, ",");
        C.due("a PLAN of 80 bytes", plan.length(), 80);
        C.due("plan(0, 80)", Checks.plan(x, 0, plan), 20);
        C.due("plan(1, 81)", Checks.plan(x, 1, plan + ","), -1);
        String orders = "l+0007;" + Checks.times("r+001", 19, ";");
        C.due("ORDERS of 120 bytes", orders.length(), 120);
        MiddleBridge y = new MiddleBridge();
        C.due("orders(120)", Checks.orders(y, orders), 20);
        C.due("the last line is done", y.sideIs(1, 2), 19);
        C.due("orders(121)", Checks.orders(y, orders + ";"), -1);
        String law = "n01" + "+1".repeat(112) + "(1=1);i7(0=0)";
        MiddleBridge z = new MiddleBridge();
        C.due("THE LAW of 240 bytes", law.length(), 240);
        C.due("law(240)", Checks.law(z, law), 2);
        z.days(1);
        C.due("its first rule holds", z.count(2), 113);
        C.due("its last rule holds", z.count(1), 7);
        C.due("law(241)", Checks.law(z, law + ";"), -1);
    }

    private static void empties(String name, int due, ToIntFunction<MiddleBridge> call, int... bytes) {
        MiddleBridge x = new MiddleBridge();
        Checks.plan(x, 0, "5");
        Checks.plan(x, 1, "5");
        Checks.orders(x, "l+5;r+5");
        Checks.feed(x, bytes);
        for (int i = 1; i < 13; i++) {
            x.feed(-1, -1, -1, -1, -1);
        }
        C.due(name + ": full tape", x.count(6), 260);
        C.due(name, call.applyAsInt(x), due);
        C.due(name + ": the tape is empty", x.count(6), 0);
    }

    /** Each call that takes bytes empties all the tape, also what is behind them. */
    private static void emptyThen() {
        empties("law(6)", 1, x -> x.law(6), Checks.bytes("x(1=1)"));
        empties("plan(1, 1)", 1, x -> x.plan(1, 1), Checks.bytes("7"));
        empties("orders(3)", 1, x -> x.orders(3), Checks.bytes("l+1"));
        empties("even(1, 0)", 0, x -> x.even(1, 0), 9);
        empties("even(2, 0)", -3, x -> x.even(2, 0), 9, 0);
        empties("piles(3, 2, 0)", 1, x -> x.piles(3, 2, 0), 2, 0, 0, 0, 0, 0, 0, 0);
        empties("piles(3, 1, 0)", -2, x -> x.piles(3, 1, 0), 2, 0, 0, 0, 0, 0, 0, 0);
        empties("lamps(1, 0, 1)", 1, x -> x.lamps(1, 0, 1), 1);
        empties("lamps(1, 0, 1)", -2, x -> x.lamps(1, 0, 1), 0);
        empties("claims(1, 2)", 1, x -> x.claims(1, 2), 3, 4);
        empties("claims(1, 2)", -2, x -> x.claims(1, 2), 3, 3);
        empties("rowed(1)", 4, x -> x.rowed(1), 4);
        empties("wed(1, 0)", 0, x -> x.wed(1, 0), 0, 0);
        empties("wed(1, 0)", -2, x -> x.wed(1, 0), 1, 0);
        empties("changes(2)", 1, x -> x.changes(2), 1, 0);
        empties("changes(2)", -2, x -> x.changes(2), 1, 1);
        empties("check()", -1, x -> x.check(), 1, 1, 0, 0);
        empties("check()", 2, x -> x.check(), 1, 1, 7, 0);
        MiddleBridge y = new MiddleBridge();
        Checks.feed(y, 1);
        C.due("even where no arch stands", y.even(1, 0), -2);
        C.due("even where no arch stands: the tape is empty", y.count(6), 0);
    }

    /** "By the first n bytes": what stands behind them is not read, and does not come to the next call. */
    private static void restIsGone() {
        MiddleBridge x = new MiddleBridge();
        Checks.feed(x, Checks.bytes("7,8,9"));
        C.due("plan(0, 3)", x.plan(0, 3), 2);
        C.due("rowed(1) of an empty tape", x.rowed(1), -1);
        Checks.feed(x, Checks.bytes("l+1;l+x"));
        C.due("orders(3)", x.orders(3), 1);
        Checks.feed(x, Checks.bytes("x(1=1);?"));
        C.due("law(6)", x.law(6), 1);
        Checks.feed(x, 1, 2, 0, 9);
        C.due("rowed(2)", x.rowed(2), 2);
    }

    /** A FAULT empties the tape, too; the next text begins anew. */
    private static void faultsEmptyToo() {
        MiddleBridge x = new MiddleBridge();
        C.due("plan", Checks.plan(x, 0, "?"), -1000);
        C.due("count(6)", x.count(6), 0);
        C.due("plan", Checks.plan(x, 0, "4"), 1);
        C.due("orders", Checks.orders(x, "?"), -1000);
        C.due("count(6)", x.count(6), 0);
        C.due("orders", Checks.orders(x, "l+4"), 1);
        C.due("law", Checks.law(x, "?"), -1000);
        C.due("count(6)", x.count(6), 0);
        C.due("law", Checks.law(x, "x(1=1)"), 1);
    }
}
