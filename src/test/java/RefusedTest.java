import java.util.ArrayList;
import java.util.List;
import java.util.function.ToIntFunction;

/**
 * "A call that is refused (NONE, false) changes nothing but the tape, where it is told": each call with each number
 * one below the least, one above the greatest, and far beyond; the tape stays, as each promise says.
 */
public final class RefusedTest {
    private static final Checks C = new Checks();
    private static final int LOW = Integer.MIN_VALUE;
    private static final int HIGH = Integer.MAX_VALUE;
    private static final String TAPE = "(11),12,13,14,15,16,17,18,19,20,21,22,99";

    private record Call(String name, int due, ToIntFunction<MiddleBridge> of) { }

    private static final List<Call> CALLS = new ArrayList<>();

    public static void main(String[] args) {
        alone();
        days();
        sides();
        tapes();
        throwsAndDebt();
        for (Call call : CALLS) {
            staysAsItWas(call, 2);
            staysAsItWas(call, 13);
        }
        fullTape();
        tooShortTape();
        neverKept();
        C.end("RefusedTest");
    }

    private static void none(String name, ToIntFunction<MiddleBridge> of) {
        CALLS.add(new Call(name, -1, of));
    }

    /** A call of one number that is wrong for all of these. */
    private static void wrong(String name, java.util.function.ToIntBiFunction<MiddleBridge, Integer> of, int... numbers) {
        for (int number : numbers) {
            none(name + " " + number, x -> of.applyAsInt(x, number));
        }
    }

    private static void alone() {
        for (int most : new int[] {-1, 100000, LOW, HIGH}) {
            CALLS.add(new Call("tilt " + most, 0, x -> x.tilt(most) ? 1 : 0));
        }
        for (int seed : new int[] {-1, 65536, LOW, HIGH}) {
            CALLS.add(new Call("seed " + seed, 0, x -> x.seed(seed) ? 1 : 0));
        }
        wrong("count", (x, what) -> x.count(what), -1, 9, LOW, HIGH);
        wrong("law", (x, n) -> x.law(n), 0, -1, 241, 261, LOW, HIGH);
        wrong("orders", (x, n) -> x.orders(n), 0, -1, 121, 261, LOW, HIGH);
        wrong("plan 0", (x, n) -> x.plan(0, n), 0, -1, 81, 261, LOW, HIGH);
        wrong("plan 1", (x, n) -> x.plan(1, n), 0, -1, 81, 261, LOW, HIGH);
        wrong("plan of side", (x, side) -> x.plan(side, 40), -1, 2, LOW, HIGH);
    }

    private static void days() {
        wrong("days", (x, n) -> x.days(n), 0, -1, 241, LOW, HIGH);
        wrong("ahead", (x, n) -> x.ahead(n), 0, -1, 241, LOW, HIGH);
        for (int what : new int[] {0, 1, 2, 3, 10, 11}) {
            wrong("tried what " + what, (x, n) -> x.tried(n, what), 0, -1, 241, LOW, HIGH);
        }
        wrong("tried 1", (x, what) -> x.tried(1, what), -1, 4, 9, 12, LOW, HIGH);
        wrong("tried 240", (x, what) -> x.tried(240, what), -1, 4, 9, 12, LOW, HIGH);
        wrong("touches what 0", (x, n) -> x.touches(n, 0), 0, -1, 241, LOW, HIGH);
        wrong("touches what 1", (x, n) -> x.touches(n, 1), 0, -1, 241, LOW, HIGH);
        wrong("touches 1", (x, what) -> x.touches(1, what), -1, 2, LOW, HIGH);
        wrong("beyond sum 0", (x, n) -> x.beyond(n, 0), 0, -1, 241, LOW, HIGH);
        wrong("beyond sum 999999", (x, n) -> x.beyond(n, 999999), 0, -1, 241, LOW, HIGH);
        wrong("beyond 1", (x, sum) -> x.beyond(1, sum), -1, 1000000, LOW, HIGH);
        wrong("beyond 240", (x, sum) -> x.beyond(240, sum), -1, 1000000, LOW, HIGH);
    }

    private static void sides() {
        for (int what = 0; what <= 6; what++) {
            int one = what;
            wrong("sideIs what " + one, (x, side) -> x.sideIs(side, one), -1, 2, LOW, HIGH);
        }
        for (int side = 0; side < 2; side++) {
            int one = side;
            wrong("sideIs " + one, (x, what) -> x.sideIs(one, what), -1, 7, LOW, HIGH);
            wrong("archIs " + one + " arch 1", (x, what) -> x.archIs(one, 1, what), -1, 3, LOW, HIGH);
        }
        for (int what = 0; what <= 2; what++) {
            int one = what;
            wrong("archIs what " + one + " of side", (x, side) -> x.archIs(side, 1, one), -1, 2, LOW, HIGH);
            wrong("archIs what " + one + " of arch", (x, i) -> x.archIs(0, i, one), 0, -1, 4, 20, 21, LOW, HIGH);
            wrong("archIs what " + one + " of arch right", (x, i) -> x.archIs(1, i, one), 0, -1, 3, 20, 21, LOW, HIGH);
        }
    }

    private static void tapes() {
        for (int what = 0; what < 2; what++) {
            int one = what;
            wrong("even what " + one, (x, n) -> x.even(n, one), 0, -1, 9, 20, LOW, HIGH);
            wrong("piles what " + one + " length", (x, length) -> x.piles(length, 1, one), 0, -1, 61, LOW, HIGH);
            wrong("piles what " + one + " span", (x, span) -> x.piles(1, span, one), 0, -1, 61, LOW, HIGH);
            wrong("lamps what " + one, (x, n) -> x.lamps(n, 0, one), 0, -1, 13, LOW, HIGH);
            wrong("lamps what " + one + " far", (x, far) -> x.lamps(1, far, one), -1, 6, LOW, HIGH);
        }
        wrong("even 1", (x, what) -> x.even(1, what), -1, 2, LOW, HIGH);
        wrong("piles 1, 1", (x, what) -> x.piles(1, 1, what), -1, 2, LOW, HIGH);
        wrong("lamps 1, 0", (x, what) -> x.lamps(1, 0, what), -1, 2, LOW, HIGH);
        for (int what = 0; what < 3; what++) {
            int one = what;
            wrong("claims what " + one, (x, n) -> x.claims(n, one), 0, -1, 11, LOW, HIGH, 1 << 30, LOW + 1);
        }
        wrong("claims 1", (x, what) -> x.claims(1, what), -1, 3, LOW, HIGH);
        wrong("rowed", (x, n) -> x.rowed(n), 0, -1, 11, LOW, HIGH);
        // 65536 times 65536 is 0 in 32 bits, and 2 n n of others fits the tape then
        wrong("wed what 0", (x, n) -> x.wed(n, 0), 0, -1, -3, 6, LOW, HIGH, 1 << 16, (1 << 15) + 1, LOW + 1);
        for (int n = 1; n <= 4; n++) {
            int one = n;
            wrong("wed " + one, (x, what) -> x.wed(one, what), -1, one, LOW, HIGH);
        }
        wrong("changes", (x, n) -> x.changes(n), 1, 0, -1, 7, LOW, HIGH);
    }

    private static void throwsAndDebt() {
        int[] good = {10, 5, 5, 5, 5};
        int[][] bad = {{0, -1, 201, LOW, HIGH}, {-1, 100, LOW, HIGH}, {-1, 100, LOW, HIGH}, {0, -1, 21, LOW, HIGH},
            {-1, 21, LOW, HIGH}};
        for (int i = 0; i < 5; i++) {
            for (int number : bad[i]) {
                int[] a = good.clone();
                a[i] = number;
                none("ball number " + i + " as " + number, x -> x.ball(a[0], a[1], a[2], a[3], a[4]));
                if (i != 3) {
                    none("leastSpeed number " + i + " as " + number, x -> x.leastSpeed(a[0], a[1], a[2], a[4]));
                }
            }
        }
        for (int what = 0; what < 2; what++) {
            int one = what;
            wrong("dialect what " + one, (x, n) -> x.dialect(n, 1, one), 0, -1, 9, LOW, HIGH);
            wrong("dialect in a row what " + one, (x, k) -> x.dialect(1, k, one), -1, 9, LOW, HIGH);
        }
        wrong("dialect 1, 1", (x, what) -> x.dialect(1, 1, what), -1, 2, LOW, HIGH);
        wrong("owed", (x, payment) -> x.owed(payment, 0), 0, -1, 100000, LOW, HIGH);
        wrong("owed by hundredths", (x, hundredths) -> x.owed(1, hundredths), -1, 51, LOW, HIGH);
    }

    /** A bridge in the middle of its days, with something KEPT, and so many feeds on the tape. */
    private static MiddleBridge prepared(int feeds) {
        MiddleBridge x = new MiddleBridge();
        Checks.plan(x, 0, "5,6,7");
        Checks.plan(x, 1, "8,9");
        Checks.law(x, "w4(r<8);c3(1=1);i7(t<9);n2(r>3);x(r=9)");
        Checks.orders(x, "l+7;r+9;s+40;d+123;lb2:9;rb1:7");
        x.tilt(30);
        x.keep();
        x.days(2);
        Checks.feed(x, Checks.bytes(TAPE + "\1".repeat(20 * feeds - 40)));
        return x;
    }

    private static void staysAsItWas(Call call, int feeds) {
        MiddleBridge x = prepared(feeds);
        MiddleBridge y = prepared(feeds);
        C.due(call.name + " with " + feeds + " feeds", call.of.applyAsInt(x), call.due);
        C.due(call.name + ": all stays", Looks.of(x).equals(Looks.of(y)), true);
        C.due(call.name + ": the bytes of the tape stay", x.plan(0, 40), 13);
        y.plan(0, 40);
        C.due(call.name + ": the plan of them", Looks.of(x).equals(Looks.of(y)), true);
        x.undo();
        y.undo();
        C.due(call.name + ": what was kept stays", Looks.of(x).equals(Looks.of(y)), true);
    }

    private static void fullTape() {
        CALLS.clear();
        none("feed to a full tape", x -> x.feed(-1, -1, -1, -1, -1));
        staysAsItWas(CALLS.get(0), 13);
    }

    /** "It has not so many (the tape stays)": one byte less than is asked. */
    private static void tooShortTape() {
        CALLS.clear();
        none("law(41)", x -> x.law(41));
        none("plan(0, 41)", x -> x.plan(0, 41));
        none("plan(1, 41)", x -> x.plan(1, 41));
        none("orders(41)", x -> x.orders(41));
        none("wed(5, 0), which asks 50", x -> x.wed(5, 0));
        none("wed(5, 4), which asks 50", x -> x.wed(5, 4));
        for (Call call : CALLS) {
            staysAsItWas(call, 2);
        }
        MiddleBridge x = new MiddleBridge();
        Checks.feed(x, 0);
        C.due("wed(4, 0) of 20 bytes, which asks 32", x.wed(4, 0), -1);
        C.due("law(21) of 20 bytes", x.law(21), -1);
        C.due("plan(0, 21) of 20 bytes", x.plan(0, 21), -1);
        C.due("orders(21) of 20 bytes", x.orders(21), -1);
        C.due("the tape stays", x.count(6), 20);
        MiddleBridge e = new MiddleBridge();
        C.due("law(1) of none", e.law(1), -1);
        C.due("plan(0, 1) of none", e.plan(0, 1), -1);
        C.due("orders(1) of none", e.orders(1), -1);
        C.due("even(1, 0) of none", e.even(1, 0), -1);
        C.due("piles(1, 1, 0) of none", e.piles(1, 1, 0), -1);
        C.due("lamps(1, 0, 0) of none", e.lamps(1, 0, 0), -1);
        C.due("claims(1, 0) of none", e.claims(1, 0), -1);
        C.due("rowed(1) of none", e.rowed(1), -1);
        C.due("wed(1, 0) of none", e.wed(1, 0), -1);
        C.due("changes(2) of none", e.changes(2), -1);
        C.due("check() of none", e.check(), -2);
        C.due("the tape is empty as it was", e.count(6), 0);
    }

    private static void neverKept() {
        MiddleBridge x = new MiddleBridge();
        MiddleBridge y = new MiddleBridge();
        for (MiddleBridge one : new MiddleBridge[] {x, y}) {
            Checks.plan(one, 0, "5,6,7");
            Checks.orders(one, "l+6;s+9;d+8;lb1:3");
            one.days(4);
            Checks.feed(one, 1, 2, 3);
        }
        C.due("undo() though none was kept", x.undo(), false);
        C.due("undo(): all stays", Looks.of(x).equals(Looks.of(y)), true);
        C.due("undo(): the tape stays", x.rowed(3), 6);
    }
}
