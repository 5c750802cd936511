/** Promises 14 to 25 at their edges: the least and the most of each number, ties, and what can't be. */
public final class QuestionEdgesTest {
    private static final Checks C = new Checks();
    private static MiddleBridge x = new MiddleBridge();
    private static int calls;

    public static void main(String[] args) {
        evenOfLikeOnes();
        evenAtItsMost();
        evenAllSmall();
        inARowNeverFarBehind();
        inARowSmall();
        inARowAgain();
        ballAtTheRail();
        ballBelowZero();
        ballFirstMoment();
        leastSpeed();
        pilesAtTheEnds();
        pilesAllSmall();
        pilesAtTheirMost();
        lampsAllSmall();
        lampsAtTheirMost();
        claimsLengths();
        claimsAtOnce();
        claimsAtTheirMost();
        rowedAtItsEdges();
        wedAtItsEdges();
        wedTellsEachOnce();
        changesAtTheirEdges();
        changesAgain();
        dialectAtItsEdges();
        owedAtItsEdges();
        owedRoundedUp();
        C.end("QuestionEdgesTest");
    }

    /** A bridge with an empty tape that answers at most four calls more within its 512. */
    private static MiddleBridge fresh() {
        calls += 4;
        if (calls > 512) {
            x = new MiddleBridge();
            calls = 4;
        }
        return x;
    }

    /** Left and right WEIGHTS by one ARCH each, or by more. */
    private static MiddleBridge standing(String left, String right, String benches) {
        MiddleBridge y = new MiddleBridge();
        Checks.plan(y, 0, left);
        Checks.plan(y, 1, right);
        Checks.orders(y, "l+9999;r+9999" + benches);
        return y;
    }

    private static void even(MiddleBridge y, int apart, int many, int... weights) {
        Checks.feed(y, weights);
        C.due("even(" + weights.length + ", 0)", y.even(weights.length, 0), apart);
        Checks.feed(y, weights);
        C.due("even(" + weights.length + ", 1)", y.even(weights.length, 1), many);
    }

    /** "So that both WEIGHTS differ least; of like ones the fewest". */
    private static void evenOfLikeOnes() {
        MiddleBridge y = standing("10", "4", "");
        even(y, 0, 1, 6);
        even(y, 0, 1, 1, 2, 3, 6);
        even(y, 0, 1, 6, 3, 2, 1);
        even(y, 0, 2, 1, 2, 4);
        even(y, 0, 2, 9, 3);
        even(y, 6, 0, 12);
        even(y, 6, 0, 255);
        even(y, 5, 1, 11);
        even(y, 5, 1, 1);
        even(y, 0, 3, 1, 2, 3);
        even(y, 0, 2, 1, 7);
        MiddleBridge like = standing("5", "5", "");
        even(like, 0, 0, 1);
        even(like, 0, 0, 1, 1, 1, 1, 1, 1, 1, 1);
    }

    /** "1 to 8 BENCHES more (weights 1 to 255)", at the 20th ARCH at most. */
    private static void evenAtItsMost() {
        MiddleBridge y = standing("9x255,9x255,2x255", "1", "");
        for (int arch = 1; arch <= 20; arch++) {
            Checks.orders(y, "lb" + arch + ":255");
        }
        C.due("they differ by", y.count(8), 510 * 210 - 1);
        even(y, 510 * 210 - 1 - 8 * 255, 8, 255, 255, 255, 255, 255, 255, 255, 255);
        MiddleBridge z = standing("1", "9x255,9x255,2x255", "");
        even(z, 255 * 210 - 1 - 8 * 255, 8, 255, 255, 255, 255, 255, 255, 255, 255);
        even(z, 255 * 210 - 2, 1, 1);
        // a bench at the 20th ARCH weighs 20 times
        MiddleBridge u = standing("9x1,9x1,2x1", "210", "");
        even(u, 0, 0, 1);
        Checks.orders(u, "rb1:40");
        even(u, 0, 1, 2);
        even(u, 0, 1, 1, 40, 2);
        even(u, 1, 2, 3, 21);
        even(u, 20, 1, 3);
    }

    /** All that 1 to 3 BENCHES can do, by trying each place for each of them. */
    private static void evenAllSmall() {
        int[][] rows = {{1}, {7}, {2, 5}, {5, 5}, {1, 2, 4}, {3, 3, 8}, {13, 1, 6}};
        for (int left = 1; left <= 12; left += 3) {
            for (int right = 1; right <= 9; right += 2) {
                MiddleBridge y = standing(left + ",1", right + "", "");
                for (int[] row : rows) {
                    int best = 1 << 30;
                    for (int code = 0; code < 27; code++) {
                        int[] where = {code % 3, code / 3 % 3, code / 9};
                        int apart = left + 2 - right;
                        int used = 0;
                        for (int i = 0; i < row.length; i++) {
                            apart += where[i] == 1 ? 2 * row[i] : where[i] == 2 ? -row[i] : 0;
                            used += where[i] > 0 ? 1 : 0;
                        }
                        best = Math.min(best, Math.abs(apart) * 100 + used);
                    }
                    even(y, best / 100, best % 100, row);
                }
            }
        }
    }

    private static int inARow(int left, int right, int leftStands, int rightStands) {
        MiddleBridge y = new MiddleBridge();
        if (left > 0) {
            Checks.plan(y, 0, Checks.times("1", left, ","));
        }
        if (right > 0) {
            Checks.plan(y, 1, Checks.times("1", right, ","));
        }
        Checks.orders(y, "l+" + leftStands + ";r+" + rightStands);
        return y.inARow();
    }

    /** "Behind each no side that still has some to build is behind the other one by more than one". */
    private static void inARowNeverFarBehind() {
        C.due("two behind now, one behind then", inARow(5, 5, 2, 0), 8);
        C.due("three behind now, two behind then", inARow(5, 5, 3, 0), 0);
        C.due("three behind, yet all is built by one", inARow(9, 1, 3, 0), 1);
        C.due("the one that is behind has none to build", inARow(9, 1, 3, 1), 1);
        C.due("two behind with one to build", inARow(9, 1, 2, 0), 1);
        C.due("the other way round", inARow(1, 9, 0, 2), 1);
        C.due("one behind with one to build", inARow(9, 1, 1, 0), 1);
        C.due("even with one to build", inARow(9, 1, 0, 0), 2);
        C.due("the right one has all, the left one is one behind then", inARow(20, 2, 0, 2), 1);
        C.due("the right one has all, the left one is two behind then", inARow(20, 3, 0, 3), 0);
        C.due("two behind the last one's", inARow(3, 9, 2, 0), 2);
    }

    /** All small PLANS against a count of each order one by one. */
    private static void inARowSmall() {
        for (int left = 0; left <= 5; left++) {
            for (int right = 0; right <= 5; right++) {
                for (int a = 0; a <= left; a++) {
                    for (int b = 0; b <= right; b++) {
                        C.due("inARow of " + left + ", " + right + " from " + a + ", " + b, inARow(left, right, a, b),
                            orders(left, right, a, b));
                    }
                }
            }
        }
        C.due("nothing to build: no plans", inARow(0, 0, 0, 0), 1);
        C.due("nothing to build: all stand", inARow(20, 20, 20, 20), 1);
        C.due("one side of 20", inARow(20, 0, 0, 0), 1);
        C.due("the most", inARow(20, 20, 0, 0), 1 << 20);
        C.due("19 and 20", inARow(19, 20, 0, 0), 1 << 19);
    }

    /** The same bridge is asked again: what it answered before leaves nothing behind. */
    private static void inARowAgain() {
        MiddleBridge y = new MiddleBridge();
        for (int turn = 0; turn < 3; turn++) {
            Checks.plan(y, 0, "9x1,9x1,2x1");
            Checks.plan(y, 1, "9x1,9x1,2x1");
            C.due("20 and 20", y.inARow(), 1 << 20);
            C.due("20 and 20 again", y.inARow(), 1 << 20);
            Checks.orders(y, "l+20;r+19");
            C.due("the last one", y.inARow(), 1);
            Checks.orders(y, "l-20;r-19");
            Checks.plan(y, 0, "1,1");
            C.due("2 and 20", y.inARow(), 4);
            Checks.plan(y, 1, "1,1");
            C.due("2 and 2", y.inARow(), 4);
            Checks.orders(y, "l+1");
            C.due("one of them stands", y.inARow(), 2);
            Checks.orders(y, "l-1");
        }
    }

    private static int orders(int left, int right, int a, int b) {
        if (a == left && b == right) {
            return 1;
        }
        int all = 0;
        for (int side = 0; side < 2; side++) {
            int p = a + 1 - side;
            int q = b + side;
            boolean far = p < left && q - p > 1 || q < right && p - q > 1;
            if (p <= left && q <= right && !far) {
                all += orders(left, right, p, q);
            }
        }
        return all;
    }

    /** "No lower than a rail there": as high is enough. */
    private static void ballAtTheRail() {
        for (int rail = 0; rail <= 99; rail++) {
            C.due("as high as the rail, or lower", fresh().ball(1, rail, 50, 1, 0), rail <= 50 ? 1 : 0);
            C.due("by the speed up", fresh().ball(1, rail, 50, 1, 20), rail <= 70 ? 1 : 0);
            C.due("by the second moment", fresh().ball(2, rail, 50, 1, 20), rail <= 89 ? 1 : 0);
        }
        C.due("the highest rail", fresh().ball(1, 99, 99, 1, 0), 1);
        C.due("the highest rail, one lower", fresh().ball(1, 99, 98, 1, 0), 0);
        C.due("the highest rail, one lower and up", fresh().ball(1, 99, 98, 1, 1), 1);
        C.due("from 0 over a rail of 0", fresh().ball(1, 0, 0, 1, 0), 1);
        // behind the second moment it is at 0 + 0 - 1
        C.due("below a rail of 0", fresh().ball(2, 0, 0, 1, 0), 0);
    }

    /** "And was never below 0 ahead of that": at 0 it may be. */
    private static void ballBelowZero() {
        // heights from h by 0: h, h - 1, h - 3, h - 6, h - 10
        C.due("at 0 just ahead", fresh().ball(4, 0, 3, 1, 0), 0);
        C.due("at 0 there", fresh().ball(3, 0, 3, 1, 0), 1);
        C.due("at 0 there, rail 1", fresh().ball(3, 1, 3, 1, 0), 0);
        C.due("from the greatest height", fresh().ball(14, 8, 99, 1, 0), 1);
        C.due("from the greatest height, one farther", fresh().ball(15, 0, 99, 1, 0), 0);
        C.due("up 20 from 0: back at 0 at moment 41", fresh().ball(41, 0, 0, 1, 20), 1);
        C.due("up 20 from 0: below 0 at moment 42", fresh().ball(42, 0, 0, 1, 20), 0);
        C.due("up 20 from 0: long below 0", fresh().ball(200, 0, 0, 1, 20), 0);
        C.due("up 20 from 0: at its highest", fresh().ball(20, 99, 0, 1, 20), 1);
    }

    /** "At the first MOMENT at which it is so far on or farther". */
    private static void ballFirstMoment() {
        // heights from 5 by 1: 6, 6, 5, 3
        C.due("the first moment", fresh().ball(5, 6, 5, 5, 1), 1);
        C.due("the first moment, a higher rail", fresh().ball(5, 7, 5, 5, 1), 0);
        C.due("as far at the second moment", fresh().ball(10, 6, 5, 5, 1), 1);
        C.due("farther: the third moment", fresh().ball(11, 6, 5, 5, 1), 0);
        C.due("farther: the third moment, a lower rail", fresh().ball(11, 5, 5, 5, 1), 1);
        C.due("as far at the third moment", fresh().ball(15, 5, 5, 5, 1), 1);
        C.due("the fourth moment", fresh().ball(16, 5, 5, 5, 1), 0);
        C.due("the fourth moment, a lower rail", fresh().ball(16, 3, 5, 5, 1), 1);
        C.due("widest gap, greatest speed", fresh().ball(200, 99, 0, 20, 20), 1);
        C.due("ten moments at most", fresh().ball(200, 0, 36, 20, 1), 1);
        C.due("ten moments: one lower", fresh().ball(200, 0, 34, 20, 1), 0);
        C.due("eleven moments", fresh().ball(200, 0, 36, 19, 1), 0);
    }

    private static void leastSpeed() {
        C.due("1", fresh().leastSpeed(1, 0, 0, 0), 1);
        C.due("20", fresh().leastSpeed(20, 0, 0, 0), 20);
        C.due("none", fresh().leastSpeed(21, 0, 0, 0), -2);
        C.due("none by the rail", fresh().leastSpeed(1, 99, 98, 0), -2);
        C.due("none of 200", fresh().leastSpeed(200, 0, 0, 4), -2);
        C.due("200 in ten moments", fresh().leastSpeed(200, 0, 0, 5), 19);
        for (int gap = 1; gap <= 200; gap += 7) {
            for (int rail = 0; rail <= 99; rail += 33) {
                for (int up = 0; up <= 20; up += 5) {
                    int least = -2;
                    for (int on = 20; on >= 1; on--) {
                        least = fresh().ball(gap, rail, 40, on, up) == 1 ? on : least;
                    }
                    C.due("leastSpeed(" + gap + ", " + rail + ", 40, " + up + ")", fresh().leastSpeed(gap, rail, 40, up), least);
                }
            }
        }
    }

    private static int piles(long places, int length, int span, int what) {
        MiddleBridge y = fresh();
        int[] bytes = new int[8];
        for (int i = 0; i < 8; i++) {
            bytes[i] = (int) (places >>> 8 * i & 255);
        }
        Checks.feed(y, bytes);
        return y.piles(length, span, what);
    }

    private static void piles(long places, int length, int span, int many, int last) {
        String name = "piles(" + length + ", " + span + ") at " + Long.toBinaryString(places);
        C.due(name, piles(places, length, span, 0), many);
        C.due(name + ", the last one", piles(places, length, span, 1), last);
    }

    /** "Places (1 to the length less 1)": neither 0 nor the length; "no end ... farther apart than the span". */
    private static void pilesAtTheEnds() {
        piles(1L, 2, 1, -2, -2);
        piles(1L << 2, 2, 1, -2, -2);
        piles(1L << 1, 2, 1, 1, 1);
        piles(1L << 1, 2, 2, 0, 0);
        piles(0, 1, 1, 0, 0);
        piles(-1L, 1, 1, 0, 0);
        piles(1L << 3, 5, 3, 1, 3);
        piles(1L << 3, 6, 3, 1, 3);
        piles(1L << 3, 7, 3, -2, -2);
        piles(1L << 4, 7, 3, -2, -2);
        piles(1L << 4, 7, 4, 1, 4);
    }

    /** Each set of places of each length up to 8, by trying each set of PILES. */
    private static void pilesAllSmall() {
        for (int length = 1; length <= 8; length++) {
            for (int places = 0; places < 1 << length; places += 2) {
                for (int span = 1; span <= length; span++) {
                    int best = 1 << 20;
                    for (int set = 0; set <= places; set += 2) {
                        boolean good = (set & ~places) == 0;
                        int before = 0;
                        for (int p = 1; p <= length; p++) {
                            if (p == length || (set >> p & 1) != 0) {
                                good &= p - before <= span;
                                before = p == length ? before : p;
                            }
                        }
                        best = good ? Math.min(best, Integer.bitCount(set) * 100 + before) : best;
                    }
                    boolean none = best == 1 << 20;
                    piles(places, length, span, none ? -2 : best / 100, none ? -2 : best % 100);
                }
            }
        }
    }

    /** Length 60, span 60, all 59 places, and each of them alone. */
    private static void pilesAtTheirMost() {
        piles(-1L, 60, 1, 59, 59);
        piles(-1L, 60, 2, 29, 58);
        piles(-1L, 60, 59, 1, 1);
        piles(-1L, 60, 60, 0, 0);
        piles(0, 59, 60, 0, 0);
        piles(0, 60, 59, -2, -2);
        piles(~(1L << 59), 60, 1, -2, -2);
        piles(~(1L << 1), 60, 1, -2, -2);
        piles(~1L, 60, 1, 59, 59);
        for (int place = 1; place < 60; place++) {
            piles(1L << place, 60, 59, 1, place);
            int span = Math.max(place, 60 - place);
            piles(1L << place, 60, span, 1, place);
            piles(1L << place, 60, span - 1, -2, -2);
        }
        piles(1L << 60 | 1L << 61 | 1L << 63, 60, 59, -2, -2);
    }

    private static void lamps(int far, int many, int bits, int... may) {
        for (int what = 0; what < 2; what++) {
            MiddleBridge y = fresh();
            Checks.feed(y, may);
            C.due("lamps(" + may.length + ", " + far + ", " + what + ")", y.lamps(may.length, far, what), what == 0 ? many : bits);
        }
    }

    /** Each row of up to 6 ARCHES, by trying each set of LAMPS; any byte but 0 lets one stand. */
    private static void lampsAllSmall() {
        for (int n = 1; n <= 6; n++) {
            for (int may = 0; may < 1 << n; may++) {
                for (int far = 0; far <= 5; far++) {
                    int best = -1;
                    for (int set = 1; set < 1 << n; set++) {
                        boolean good = (set & ~may) == 0;
                        for (int arch = 0; arch < n; arch++) {
                            boolean lit = false;
                            for (int lamp = Math.max(0, arch - far); lamp <= Math.min(n - 1, arch + far); lamp++) {
                                lit |= (set >> lamp & 1) != 0;
                            }
                            good &= lit;
                        }
                        if (good && (best < 0 || Integer.bitCount(set) < Integer.bitCount(best))) {
                            best = set;
                        }
                    }
                    int[] bytes = new int[n];
                    for (int arch = 0; arch < n; arch++) {
                        bytes[arch] = (may >> arch & 1) * (1 + 254 * (arch & 1));
                    }
                    lamps(far, best < 0 ? -2 : Integer.bitCount(best), best < 0 ? -2 : best, bytes);
                }
            }
        }
    }

    private static void lampsAtTheirMost() {
        int[] all = {1, 2, 4, 8, 16, 32, 64, 128, 255, 1, 1, 1};
        lamps(0, 12, 4095, all);
        lamps(1, 4, 1 << 1 | 1 << 4 | 1 << 7 | 1 << 10, all);
        lamps(2, 3, 1 | 1 << 4 | 1 << 9, all);
        lamps(5, 2, 1 | 1 << 6, all);
        lamps(5, 2, 1 | 1 << 11, 1, 0, 0, 0, 0, 0, 0, 0, 0, 0, 0, 1);
        lamps(5, -2, -2, 0, 0, 0, 0, 0, 1, 0, 0, 0, 0, 0, 0);
        lamps(5, 1, 1 << 5, 0, 0, 0, 0, 0, 1, 0, 0, 0, 0, 0);
        lamps(0, 1, 1, 255);
        lamps(0, -2, -2, 0);
        lamps(5, -2, -2, 0, 0, 0, 0, 0, 0, 0, 0, 0, 0, 0, 0);
    }

    private static void claims(int byBoth, int byNobody, int most, int... places) {
        int[] due = {byBoth, byNobody, most};
        for (int what = 0; what < 3; what++) {
            MiddleBridge y = fresh();
            Checks.feed(y, places);
            C.due("claims(" + places.length / 2 + ", " + what + ")", y.claims(places.length / 2, what), due[what]);
        }
    }

    private static void claimsLengths() {
        claims(0, 0, 1, 0, 1);
        claims(0, 0, 1, 254, 255);
        claims(0, 0, 1, 0, 255);
        claims(1, 0, 2, 0, 1, 0, 1);
        claims(1, 0, 2, 0, 2, 1, 2);
        claims(0, 0, 1, 0, 1, 1, 2);
        claims(0, 1, 1, 0, 1, 2, 3);
        claims(0, 253, 1, 0, 1, 254, 255);
        claims(0, 253, 1, 254, 255, 0, 1);
        // what one side claims twice is not claimed by both
        claims(0, 0, 2, 0, 9, 9, 20, 0, 9);
        claims(5, 0, 3, 0, 9, 3, 8, 2, 9);
        claims(2, 8, 2, 10, 20, 18, 21, 29, 30);
        claims(4, 0, 2, 1, 3, 1, 7, 5, 7);
    }

    /** "The most claims at once of one place". */
    private static void claimsAtOnce() {
        claims(1, 0, 2, 5, 9, 8, 12);
        claims(0, 0, 1, 5, 9, 9, 12);
        claims(0, 1, 1, 5, 9, 10, 12);
        claims(0, 0, 2, 0, 2, 2, 4, 0, 1, 3, 4);
    }

    private static void claimsAtTheirMost() {
        claims(255, 0, 10, 0, 255, 0, 255, 0, 255, 0, 255, 0, 255, 0, 255, 0, 255, 0, 255, 0, 255, 0, 255);
        claims(0, 0, 1, 0, 1, 1, 2, 2, 3, 3, 4, 4, 5, 5, 6, 6, 7, 7, 8, 8, 9, 9, 10);
        claims(0, 9, 1, 0, 1, 2, 3, 4, 5, 6, 7, 8, 9, 10, 11, 12, 13, 14, 15, 16, 17, 18, 19);
        claims(-2, -2, -2, 0, 0);
        claims(-2, -2, -2, 255, 255);
        claims(-2, -2, -2, 1, 0);
        claims(-2, -2, -2, 255, 0);
        claims(-2, -2, -2, 0, 1, 0, 1, 0, 1, 0, 1, 0, 1, 0, 1, 0, 1, 0, 1, 0, 1, 7, 7);
    }

    private static void rowed(int due, int... minutes) {
        MiddleBridge y = fresh();
        Checks.feed(y, minutes);
        C.due("rowed(" + minutes.length + ")", y.rowed(minutes.length), due);
    }

    private static void rowedAtItsEdges() {
        rowed(0, 0);
        rowed(1, 1);
        rowed(255, 255);
        rowed(255, 0, 255);
        rowed(255, 255, 255);
        rowed(255 * 3, 255, 255, 255);
        rowed(256, 0, 1, 255);
        rowed(3 + 1 + 2, 3, 2, 1);
        // by two swift ones, or by the swiftest one alone: 1 + 2 * 6 + 7 or 2 * 1 + 6 + 7 ... and like
        rowed(6 + 1 + 6 + 1 + 7, 1, 6, 6, 7);
        rowed(2 + 1 + 7 + 2 + 2, 1, 2, 7, 7);
        rowed(4 + 1 + 4 + 1 + 4, 1, 4, 4, 4);
        rowed(9 * 255, 255, 255, 255, 255, 255, 0, 255, 255, 255, 255);
        rowed(0, 0, 0, 0, 0, 0, 0, 0, 0, 0, 0);
        rowed(17 * 255, 255, 255, 255, 255, 255, 255, 255, 255, 255, 255);
        rowed(1 + 2 * 2 + 10 + 1 + 2 * 2 + 8 + 1 + 2 * 2 + 6 + 1 + 2 * 2 + 4 + 2, 1, 2, 3, 4, 5, 6, 7, 8, 9, 10);
    }

    private static void wed(int n, int what, int due, int... rows) {
        MiddleBridge y = fresh();
        Checks.feed(y, rows);
        C.due("wed(" + n + ", " + what + ")", y.wed(n, what), due);
    }

    private static void wedAtItsEdges() {
        wed(1, 0, 0, 0, 0);
        // both ask 1; she likes 1 better; 0 asks on
        wed(2, 0, 0, 1, 0, 1, 0, 0, 1, 1, 0);
        wed(2, 1, 1, 1, 0, 1, 0, 0, 1, 1, 0);
        // she keeps the one she likes best, though he came first
        wed(2, 0, 1, 1, 0, 1, 0, 0, 1, 0, 1);
        wed(2, 1, 0, 1, 0, 1, 0, 0, 1, 0, 1);
        // of two stable ones that which the left ones like
        wed(2, 0, 0, 0, 1, 1, 0, 1, 0, 0, 1);
        wed(2, 1, 1, 0, 1, 1, 0, 1, 0, 0, 1);
        // one who is left must ask again and again: 0 by 1, then by 2
        int[] three = {0, 1, 2, 0, 1, 2, 0, 1, 2, 2, 1, 0, 2, 1, 0, 2, 1, 0};
        wed(3, 0, 2, three);
        wed(3, 1, 1, three);
        wed(3, 2, 0, three);
        int[] five = {4, 3, 2, 1, 0, 3, 4, 2, 1, 0, 2, 1, 0, 3, 4, 1, 0, 2, 3, 4, 0, 1, 2, 3, 4,
            0, 1, 2, 3, 4, 0, 1, 2, 3, 4, 0, 1, 2, 3, 4, 0, 1, 2, 3, 4, 0, 1, 2, 3, 4};
        int[] due = {4, 3, 2, 1, 0};
        for (int what = 0; what < 5; what++) {
            wed(5, what, due[what], five);
        }
        // the longest courtship of five: 21 are asked till all are wed
        int[] longest = {2, 0, 4, 3, 1, 3, 2, 0, 4, 1, 0, 4, 3, 2, 1, 2, 3, 0, 4, 1, 3, 2, 4, 0, 1,
            4, 0, 2, 1, 3, 3, 1, 2, 4, 0, 2, 1, 4, 0, 3, 0, 1, 2, 4, 3, 3, 2, 0, 4, 1};
        int[] then = {3, 1, 2, 4, 0};
        for (int what = 0; what < 5; what++) {
            wed(5, what, then[what], longest);
        }
    }

    /** "-2: a row that does not tell each just once": each row in turn, each wrong number. */
    private static void wedTellsEachOnce() {
        for (int n = 1; n <= 5; n++) {
            for (int row = 0; row < 2 * n; row++) {
                for (int wrong : new int[] {n, 255, n - 1, 128}) {
                    int[] rows = new int[2 * n * n];
                    for (int i = 0; i < rows.length; i++) {
                        rows[i] = i % n;
                    }
                    wed(n, n - 1, n - 1, rows);
                    rows[row * n] = wrong;
                    wed(n, n - 1, n == 1 && wrong == 0 ? 0 : -2, rows);
                }
            }
        }
    }

    private static void changes(int due, int... row) {
        MiddleBridge y = fresh();
        Checks.feed(y, row);
        C.due("changes(" + row.length + ")", y.changes(row.length), due);
    }

    private static void changesAtTheirEdges() {
        changes(0, 0, 1);
        changes(1, 1, 0);
        changes(0, 0, 1, 2);
        changes(1, 0, 2, 1);
        changes(2, 1, 2, 0);
        changes(3, 2, 1, 0);
        changes(0, 0, 1, 2, 3);
        // any neighbours may change at once, none twice
        changes(1, 1, 0, 3, 2);
        changes(2, 1, 3, 0, 2);
        changes(3, 1, 2, 3, 0);
        changes(2, 2, 0, 3, 1);
        changes(4, 3, 2, 1, 0);
        changes(5, 4, 3, 2, 1, 0);
        changes(6, 5, 4, 3, 2, 1, 0);
        changes(1, 1, 0, 3, 2, 5, 4);
        changes(1, 0, 2, 1, 4, 3, 5);
        changes(5, 5, 0, 1, 2, 3, 4);
        changes(0, 0, 1, 2, 3, 4, 5);
        changes(-2, 0, 0);
        changes(-2, 1, 1);
        changes(-2, 0, 2);
        changes(-2, 2, 1);
        changes(-2, 255, 0);
        changes(-2, 0, 1, 2, 3, 4, 4);
        changes(-2, 0, 1, 2, 3, 4, 6);
        changes(-2, 1, 2, 3, 4, 5, 6);
    }

    /** Rows of 6, 5, .. 2 and again: a bridge that has answered many answers as a new one does. */
    private static void changesAgain() {
        for (int code = 0; code < 46656; code += 7) {
            int n = 6 - code % 5;
            int[] row = new int[n];
            int seen = 0;
            for (int i = 0, rest = code; i < n; i++, rest /= 6) {
                row[i] = rest % 6;
                seen |= 1 << row[i];
            }
            if (seen == (1 << n) - 1) {
                MiddleBridge y = new MiddleBridge();
                Checks.feed(y, row);
                changes(y.changes(n), row);
            }
        }
        for (int n : new int[] {6, 2, 3, 6, 3, 4, 5, 4, 2}) {
            int[] row = new int[n];
            for (int i = 0; i < n; i++) {
                row[i] = n - 1 - i;
            }
            changes(n == 2 ? 1 : n, row);
        }
    }

    private static void dialectAtItsEdges() {
        for (int n = 1; n <= 8; n++) {
            C.due("none in a row", fresh().dialect(n, 0, 0), 0);
            C.due("none in a row, the least", fresh().dialect(n, 0, 1), -2);
            C.due("one in a row", fresh().dialect(n, 1, 0), 2);
            C.due("all in a row", fresh().dialect(n, n, 0), 1 << n);
            C.due("all in a row, the least", fresh().dialect(n, n, 1), 0);
            C.due("8 in a row", fresh().dialect(n, 8, 0), 1 << n);
            C.due("8 in a row, the least", fresh().dialect(n, 8, 1), 0);
            if (n > 1) {
                C.due("all but one in a row", fresh().dialect(n, n - 1, 0), (1 << n) - 2);
                C.due("all but one in a row, the least", fresh().dialect(n, n - 1, 1), 1);
            }
        }
        int[] least = {-2, 0, 1, 2, 5, 10, 21, 42, 85};
        for (int n = 1; n <= 8; n++) {
            C.due("by turns, the least", fresh().dialect(n, 1, 1), least[n]);
        }
        C.due("two in a row of 8", fresh().dialect(8, 2, 0), 68);
        C.due("two in a row of 8, the least", fresh().dialect(8, 2, 1), 0b00100100);
        C.due("three in a row of 8, the least", fresh().dialect(8, 3, 1), 0b00010001);
    }

    private static MiddleBridge debtor(int debt) {
        MiddleBridge y = new MiddleBridge();
        while (y.count(2) < debt) {
            Checks.orders(y, "d+" + Math.min(9999, debt - y.count(2)));
        }
        return y;
    }

    /** "Years (200 at most)"; "-2: not in 200". */
    private static void owedAtItsEdges() {
        C.due("no debt", debtor(0).owed(1, 0), 0);
        C.due("no debt, most", debtor(0).owed(99999, 50), 0);
        C.due("a penny", debtor(1).owed(1, 0), 1);
        C.due("a penny that grows to two", debtor(1).owed(1, 1), -2);
        C.due("a penny, two paid", debtor(1).owed(2, 50), 1);
        C.due("200 years", debtor(200).owed(1, 0), 200);
        C.due("201 years", debtor(201).owed(1, 0), -2);
        C.due("199 years", debtor(199).owed(1, 0), 199);
        C.due("just paid", debtor(600).owed(300, 0), 2);
        C.due("a penny more", debtor(601).owed(300, 0), 3);
        C.due("it stays as it is", debtor(300).owed(150, 50), -2);
        C.due("it grows", debtor(300).owed(149, 50), -2);
        C.due("a penny less than it grows by", debtor(1000).owed(99, 10), -2);
        C.due("as much as it grows by", debtor(1000).owed(100, 10), -2);
        C.due("a penny more than it grows by", debtor(1000).owed(101, 10), 54);
        MiddleBridge y = debtor(99999);
        C.due("the most payment", y.owed(99999, 0), 1);
        C.due("the most payment, a hundredth", y.owed(99999, 1), 2);
        C.due("all stays", y.count(2), 99999);
    }

    /** "By hundredths a year (rounded up), so much paid at each year's end". */
    private static void owedRoundedUp() {
        // 100 by 1 is 101, 101 by 1 is 102.01, rounded up 103
        C.due("100 by 1, 101 paid", debtor(100).owed(101, 1), 1);
        C.due("100 by 1, 100 paid", debtor(100).owed(100, 1), 2);
        C.due("101 by 1, 102 paid", debtor(101).owed(102, 1), 2);
        C.due("101 by 1, 103 paid", debtor(101).owed(103, 1), 1);
        C.due("199 by 1, 201 paid", debtor(199).owed(201, 1), 1);
        C.due("199 by 1, 200 paid", debtor(199).owed(200, 1), 2);
        C.due("1 by 50, 1 paid", debtor(1).owed(1, 50), -2);
        C.due("3 by 50, 5 paid", debtor(3).owed(5, 50), 1);
        C.due("3 by 50, 4 paid", debtor(3).owed(4, 50), 2);
        C.due("first it grows, then it is paid", debtor(10).owed(10, 50), 2);
    }
}
