/**
 * "Where several of these fit one call NONE (or what is told in its place) is told first, then a FAULT, then -2, then
 * -3": calls for which more than one fits.
 */
public final class AnswerOrderTest {
    private static final Checks C = new Checks();

    public static void main(String[] args) {
        noneAheadOfFault();
        noneAheadOfMinusTwo();
        minusTwoAheadOfMinusThree();
        noneThoughNothingElseIsRight();
        C.end("AnswerOrderTest");
    }

    private static MiddleBridge fed(int... bytes) {
        MiddleBridge x = new MiddleBridge();
        Checks.feed(x, bytes);
        return x;
    }

    private static void stays(String call, int got, MiddleBridge x) {
        C.due(call, got, -1);
        C.due(call + ": the tape stays", x.count(6), 20);
    }

    private static void noneAheadOfFault() {
        int[] wrong = Checks.bytes("????????????????????");
        for (int side : new int[] {-1, 2, Integer.MIN_VALUE, Integer.MAX_VALUE}) {
            MiddleBridge x = fed(wrong);
            stays("plan of no such side", x.plan(side, 3), x);
        }
        for (int n : new int[] {0, -1, 21, 81, 121, 241}) {
            MiddleBridge x = fed(wrong);
            stays("plan(0, " + n + ")", x.plan(0, n), x);
            stays("orders(" + n + ")", x.orders(n), x);
            stays("law(" + n + ")", x.law(n), x);
            C.due("then the FAULT", x.law(20), -1000);
        }
    }

    /** Bytes by which the answer would be -2, if the numbers were right. */
    private static void noneAheadOfMinusTwo() {
        MiddleBridge x = fed(9, 9, 9, 9, 9, 9, 9, 9, 9, 9, 9, 9, 9, 9, 9, 9, 9, 9, 9, 9);
        stays("even(0, 0)", x.even(0, 0), x);
        stays("even(9, 0)", x.even(9, 0), x);
        stays("even(1, 2)", x.even(1, 2), x);
        stays("even(1, -1)", x.even(1, -1), x);
        stays("piles(61, 1, 0)", x.piles(61, 1, 0), x);
        stays("piles(60, 0, 0)", x.piles(60, 0, 0), x);
        stays("piles(60, 1, 2)", x.piles(60, 1, 2), x);
        stays("claims(0, 0)", x.claims(0, 0), x);
        stays("claims(11, 0)", x.claims(11, 0), x);
        stays("claims(1, 3)", x.claims(1, 3), x);
        stays("wed(0, 0)", x.wed(0, 0), x);
        stays("wed(6, 0)", x.wed(6, 0), x);
        stays("wed(2, 2)", x.wed(2, 2), x);
        stays("wed(2, -1)", x.wed(2, -1), x);
        stays("wed(4, 0), which asks 32", x.wed(4, 0), x);
        stays("changes(1)", x.changes(1), x);
        stays("changes(7)", x.changes(7), x);
        C.due("then -2", x.changes(2), -2);
        MiddleBridge y = fed(0);
        stays("lamps(13, 0, 0)", y.lamps(13, 0, 0), y);
        stays("lamps(1, 6, 0)", y.lamps(1, 6, 0), y);
        stays("lamps(1, 0, 2)", y.lamps(1, 0, 2), y);
        C.due("then -2", y.lamps(1, 0, 0), -2);
        MiddleBridge z = new MiddleBridge();
        C.due("touches(0, 0)", z.touches(0, 0), -1);
        C.due("touches(1, 2)", z.touches(1, 2), -1);
        C.due("beyond(0, 0)", z.beyond(0, 0), -1);
        C.due("beyond(1, -1)", z.beyond(1, -1), -1);
        C.due("beyond(1, 1000000)", z.beyond(1, 1000000), -1);
        C.due("leastSpeed(201, 99, 0, 0)", z.leastSpeed(201, 99, 0, 0), -1);
        C.due("leastSpeed(200, 100, 0, 0)", z.leastSpeed(200, 100, 0, 0), -1);
        C.due("leastSpeed(200, 99, -1, 0)", z.leastSpeed(200, 99, -1, 0), -1);
        C.due("leastSpeed(200, 99, 0, 21)", z.leastSpeed(200, 99, 0, 21), -1);
        C.due("leastSpeed(200, 99, 0, 0)", z.leastSpeed(200, 99, 0, 0), -2);
        C.due("dialect(1, 0, 2)", z.dialect(1, 0, 2), -1);
        C.due("dialect(9, 0, 1)", z.dialect(9, 0, 1), -1);
        C.due("dialect(1, 0, 1)", z.dialect(1, 0, 1), -2);
        Checks.orders(z, "d+9999");
        C.due("owed(0, 50)", z.owed(0, 50), -1);
        C.due("owed(1, 51)", z.owed(1, 51), -1);
        C.due("owed(1, 50)", z.owed(1, 50), -2);
    }

    /** EVEN: no ARCH stands, and a weight is 0. */
    private static void minusTwoAheadOfMinusThree() {
        String[] orders = {"l+0", "l+5", "r+5"};
        for (String one : orders) {
            for (int what = 0; what < 2; what++) {
                MiddleBridge x = new MiddleBridge();
                Checks.plan(x, 0, "5");
                Checks.plan(x, 1, "5");
                Checks.orders(x, one);
                Checks.feed(x, 1, 0);
                C.due("even(2, " + what + ") behind " + one, x.even(2, what), -2);
                C.due("the tape is empty", x.count(6), 0);
                Checks.orders(x, "l+5;r+5");
                Checks.feed(x, 1, 0);
                C.due("a weight 0", x.even(2, what), -3);
                C.due("the tape is empty", x.count(6), 0);
                Checks.feed(x, 0, 1);
                C.due("a weight 0 at first", x.even(2, what), -3);
                Checks.feed(x, 1, 1, 1, 1, 1, 1, 1, 0);
                C.due("a weight 0 at last", x.even(8, what), -3);
                Checks.feed(x, 1, 1, 1, 1, 1, 1, 1, 0);
                C.due("one that is not asked", x.even(7, what), 0);
                Checks.feed(x, 0);
                C.due("NONE ahead of both", x.even(1, 2), -1);
            }
        }
        MiddleBridge without = fed(0);
        C.due("without plans", without.even(1, 0), -2);
    }

    private static void noneThoughNothingElseIsRight() {
        int low = Integer.MIN_VALUE;
        int high = Integer.MAX_VALUE;
        for (int one : new int[] {low, high, -1}) {
            MiddleBridge x = fed(9, 9);
            stays("law", x.law(one), x);
            stays("plan", x.plan(one, one), x);
            stays("orders", x.orders(one), x);
            stays("days", x.days(one), x);
            stays("tried", x.tried(one, one), x);
            stays("sideIs", x.sideIs(one, one), x);
            stays("archIs", x.archIs(one, one, one), x);
            stays("touches", x.touches(one, one), x);
            stays("ahead", x.ahead(one), x);
            stays("beyond", x.beyond(one, one), x);
            stays("even", x.even(one, one), x);
            stays("ball", x.ball(one, one, one, one, one), x);
            stays("leastSpeed", x.leastSpeed(one, one, one, one), x);
            stays("piles", x.piles(one, one, one), x);
            stays("lamps", x.lamps(one, one, one), x);
            stays("claims", x.claims(one, one), x);
            stays("rowed", x.rowed(one), x);
            stays("wed", x.wed(one, one), x);
            stays("changes", x.changes(one), x);
            stays("dialect", x.dialect(one, one, one), x);
            stays("owed", x.owed(one, one), x);
            stays("count", x.count(one), x);
        }
    }
}
