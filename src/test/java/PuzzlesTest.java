/** Promises 16 to 25: questions that leave the bridge as it is. */
public final class PuzzlesTest {
    private static final Checks C = new Checks();
    private static final int LOW = Integer.MIN_VALUE;
    private static final int HIGH = Integer.MAX_VALUE;

    private static MiddleBridge bridge = new MiddleBridge();

    public static void main(String[] args) {
        ball();
        piles();
        lamps();
        claims();
        rowed();
        wed();
        // an object is used for at most 512 calls
        bridge = new MiddleBridge();
        changes();
        dialect();
        owed();
        C.end("PuzzlesTest");
    }

    private static void empty(String call) {
        C.due("the tape is empty behind " + call, bridge.count(6), 0);
    }

    private static void ball() {
        C.due("at once", bridge.ball(1, 0, 0, 1, 0), 1);
        C.due("on the rail", bridge.ball(1, 5, 3, 20, 2), 1);
        C.due("below the rail", bridge.ball(1, 6, 3, 20, 2), 0);
        // from 0 by 3: 3, 5, 6, 6, 5, 3, 0, -4
        C.due("falls on 0", bridge.ball(14, 0, 0, 2, 3), 1);
        C.due("falls below 0", bridge.ball(15, 0, 0, 2, 3), 0);
        C.due("ahead of the gap it may be at 0", bridge.ball(7, 0, 0, 1, 3), 1);
        C.due("over the first rail that it meets", bridge.ball(5, 6, 0, 2, 3), 1);
        C.due("over the first rail that it meets", bridge.ball(4, 6, 0, 2, 3), 0);
        C.due("was below 0", bridge.ball(200, 0, 0, 1, 0), 0);
        C.due("far", bridge.ball(200, 99, 99, 20, 20), 1);
        C.due("leastSpeed", bridge.leastSpeed(14, 0, 0, 3), 2);
        C.due("leastSpeed", bridge.leastSpeed(15, 0, 0, 3), 3);
        C.due("leastSpeed", bridge.leastSpeed(14, 6, 0, 3), 4);
        C.due("slower and higher", bridge.leastSpeed(1, 99, 99, 20), 1);
        C.due("a slow one that is still low", bridge.leastSpeed(20, 6, 0, 3), 5);
        C.due("none", bridge.leastSpeed(1, 7, 0, 3), -2);
        C.due("the greatest speed", bridge.leastSpeed(20, 0, 0, 0), 20);
        C.due("none but a greater speed", bridge.leastSpeed(21, 0, 0, 0), -2);
        C.due("none", bridge.leastSpeed(200, 0, 0, 0), -2);
        int[] good = {10, 5, 5, 5, 5};
        int[][] wrong = {{0, 201, -1, LOW, HIGH}, {-1, 100, LOW, HIGH, 101}, {-1, 100, LOW, HIGH, 101},
            {0, 21, -1, LOW, HIGH}, {-1, 21, LOW, HIGH, 22}};
        for (int i = 0; i < 5; i++) {
            for (int bad : wrong[i]) {
                int[] a = good.clone();
                a[i] = bad;
                C.due("ball wrong " + i + ": " + bad, bridge.ball(a[0], a[1], a[2], a[3], a[4]), -1);
                if (i != 3) {
                    C.due("leastSpeed wrong " + i + ": " + bad, bridge.leastSpeed(a[0], a[1], a[2], a[4]), -1);
                }
            }
        }
    }

    private static void piles(long places, int length, int span, int many, int last) {
        for (int what = 0; what < 2; what++) {
            int[] bytes = new int[8];
            for (int i = 0; i < 8; i++) {
                bytes[i] = (int) (places >>> 8 * i & 255);
            }
            Checks.feed(bridge, bytes);
            C.due("piles(" + length + ", " + span + ", " + what + ")", bridge.piles(length, span, what), what == 0 ? many : last);
            empty("piles");
        }
    }

    private static void piles() {
        piles(0, 1, 1, 0, 0);
        piles(0, 60, 60, 0, 0);
        piles(0, 60, 59, -2, -2);
        piles(-1, 60, 1, 59, 59);
        piles(-1, 60, 59, 1, 1);
        piles(-1, 60, 30, 1, 30);
        piles(-1, 60, 20, 2, 40);
        piles(-1, 60, 29, 2, 31);
        piles(1L << 59, 60, 59, 1, 59);
        piles(1L << 1, 60, 59, 1, 1);
        piles(1L << 59, 60, 58, -2, -2);
        // the ends bear no pile: bits 0 and at the length
        piles(1L | 1L << 10, 10, 9, -2, -2);
        piles(1L << 4 | 1L << 6, 10, 6, 1, 4);
        piles(1L << 3 | 1L << 4 | 1L << 7, 10, 4, 2, 7);
        piles(1L << 3 | 1L << 7, 10, 3, -2, -2);
        Checks.feed(bridge, 1);
        int[][] wrong = {{0, 1, 0}, {61, 1, 0}, {1, 0, 0}, {1, 61, 0}, {1, 1, -1}, {1, 1, 2}, {LOW, HIGH, 0}};
        for (int[] w : wrong) {
            C.due("piles wrong", bridge.piles(w[0], w[1], w[2]), -1);
        }
        C.due("the tape stays", bridge.count(6), 20);
        bridge.piles(1, 1, 0);
        C.due("piles of no tape", bridge.piles(1, 1, 0), -1);
    }

    private static void lamps(int far, int many, int bits, int... may) {
        for (int what = 0; what < 2; what++) {
            Checks.feed(bridge, may);
            C.due("lamps(" + may.length + ", " + far + ", " + what + ")", bridge.lamps(may.length, far, what), what == 0 ? many : bits);
            empty("lamps");
        }
    }

    private static void lamps() {
        lamps(0, 1, 1, 1);
        lamps(5, -2, -2, 0);
        lamps(0, 2, 3, 1, 255);
        lamps(0, -2, -2, 1, 0);
        lamps(1, 1, 2, 1, 1, 1);
        lamps(1, 1, 1, 1, 1);
        lamps(1, 1, 2, 0, 1, 0);
        lamps(1, -2, -2, 1, 1, 0, 0);
        lamps(1, 4, 1 | 1 << 2 | 1 << 5 | 1 << 8, 1, 1, 1, 1, 1, 1, 1, 1, 1, 1);
        lamps(1, 4, 1 << 1 | 1 << 4 | 1 << 7 | 1 << 10, 1, 1, 1, 1, 1, 1, 1, 1, 1, 1, 1, 1);
        lamps(5, 2, 1 | 1 << 6, 1, 1, 1, 1, 1, 1, 1, 1, 1, 1, 1, 1);
        lamps(5, 2, 1 | 1 << 11, 1, 0, 0, 0, 0, 0, 0, 0, 0, 0, 0, 1);
        lamps(5, 1, 1 << 5, 1, 1, 1, 1, 1, 1, 1, 1, 1, 1, 1);
        lamps(0, 12, 4095, 1, 1, 1, 1, 1, 1, 1, 1, 1, 1, 1, 1);
        Checks.feed(bridge, 1, 1, 1);
        int[][] wrong = {{0, 1, 0}, {13, 1, 0}, {1, -1, 0}, {1, 6, 0}, {1, 1, -1}, {1, 1, 2}, {LOW, 0, 0}, {HIGH, 0, 0}};
        for (int[] w : wrong) {
            C.due("lamps wrong", bridge.lamps(w[0], w[1], w[2]), -1);
        }
        C.due("the tape stays", bridge.count(6), 20);
        bridge.lamps(1, 1, 0);
        C.due("lamps of no tape", bridge.lamps(1, 1, 0), -1);
    }

    private static void claims(int byBoth, int byNobody, int most, int... places) {
        int[] due = {byBoth, byNobody, most};
        for (int what = 0; what < 3; what++) {
            Checks.feed(bridge, places);
            C.due("claims(" + places.length / 2 + ", " + what + ")", bridge.claims(places.length / 2, what), due[what]);
            empty("claims");
        }
    }

    private static void claims() {
        claims(0, 0, 1, 0, 255);
        claims(255, 0, 2, 0, 255, 0, 255);
        claims(0, 0, 1, 5, 9, 9, 12);
        claims(0, 3, 1, 5, 9, 12, 14);
        claims(3, 0, 3, 5, 9, 6, 9, 5, 10);
        claims(0, 1, 2, 5, 9, 20, 22, 6, 19);
        claims(2, 0, 10, 7, 9, 7, 9, 7, 9, 7, 9, 7, 9, 7, 9, 7, 9, 7, 9, 7, 21, 7, 9);
        claims(-2, -2, -2, 5, 5);
        claims(-2, -2, -2, 1, 2, 6, 5);
        Checks.feed(bridge, 1, 2, 6, 5);
        C.due("it is not asked", bridge.claims(1, 2), 1);
        Checks.feed(bridge, 1, 2, 3);
        int[][] wrong = {{0, 0}, {11, 0}, {1, -1}, {1, 3}, {LOW, 0}, {HIGH, 0}, {1 << 30, 0}, {-1 << 31 | 1, 0}};
        for (int[] w : wrong) {
            C.due("claims wrong", bridge.claims(w[0], w[1]), -1);
        }
        C.due("the tape stays", bridge.count(6), 20);
        bridge.claims(1, 0);
        C.due("claims of no tape", bridge.claims(1, 0), -1);
    }

    private static void rowed(int due, int... minutes) {
        Checks.feed(bridge, minutes);
        C.due("rowed(" + minutes.length + ")", bridge.rowed(minutes.length), due);
        empty("rowed");
    }

    private static void rowed() {
        rowed(0, 0);
        rowed(255, 255);
        rowed(255, 255, 1);
        rowed(17, 10, 5, 2, 1);
        rowed(17, 1, 2, 5, 10);
        rowed(6, 1, 2, 3);
        // two slow ones are rowed by the swift one, each by himself
        rowed(8 + 1 + 9 + 1 + 10, 1, 8, 9, 10);
        rowed(60, 5, 10, 20, 25);
        rowed(0, 0, 0, 0, 0);
        rowed(255 * 17, 255, 255, 255, 255, 255, 255, 255, 255, 255, 255);
        Checks.feed(bridge, 1, 2, 3);
        for (int n : new int[] {0, -1, 11, 21, LOW, HIGH}) {
            C.due("rowed(" + n + ")", bridge.rowed(n), -1);
        }
        C.due("the tape stays", bridge.count(6), 20);
        bridge.rowed(1);
        C.due("rowed of no tape", bridge.rowed(1), -1);
    }

    private static void wed(int n, int[] weds, int... rows) {
        for (int man = 0; man < n; man++) {
            Checks.feed(bridge, rows);
            C.due("wed(" + n + ", " + man + ")", bridge.wed(n, man), weds[man]);
            empty("wed");
        }
    }

    private static void wed() {
        wed(1, new int[] {0}, 0, 0);
        wed(2, new int[] {0, 1}, 0, 1, 1, 0, 1, 0, 0, 1);
        wed(2, new int[] {1, 0}, 0, 1, 0, 1, 1, 0, 1, 0);
        // each on the left has the best, each on the right the worst
        wed(3, new int[] {0, 1, 2}, 0, 1, 2, 1, 2, 0, 2, 0, 1, 1, 2, 0, 2, 0, 1, 0, 1, 2);
        // all ask the same in the same row, who likes the last one best
        wed(5, new int[] {4, 3, 2, 1, 0}, 0, 1, 2, 3, 4, 0, 1, 2, 3, 4, 0, 1, 2, 3, 4, 0, 1, 2, 3, 4, 0, 1, 2, 3, 4,
            4, 3, 2, 1, 0, 4, 3, 2, 1, 0, 4, 3, 2, 1, 0, 4, 3, 2, 1, 0, 4, 3, 2, 1, 0);
        wed(2, new int[] {-2, -2}, 0, 0, 1, 0, 1, 0, 0, 1);
        wed(2, new int[] {-2, -2}, 0, 1, 1, 0, 1, 0, 0, 2);
        wed(1, new int[] {-2}, 0, 1);
        wed(1, new int[] {-2}, 255, 0);
        Checks.feed(bridge, 0, 1, 0);
        int[][] wrong = {{0, 0}, {6, 0}, {1, 1}, {1, -1}, {2, 2}, {4, 0}, {LOW, 0}, {HIGH, 0}, {1 << 16, 0}};
        for (int[] w : wrong) {
            C.due("wed wrong", bridge.wed(w[0], w[1]), -1);
        }
        C.due("the tape stays", bridge.count(6), 20);
        bridge.wed(1, 0);
        C.due("wed of no tape", bridge.wed(1, 0), -1);
    }

    private static void changes(int due, int... row) {
        Checks.feed(bridge, row);
        C.due("changes(" + row.length + ")", bridge.changes(row.length), due);
        empty("changes");
    }

    private static void changes() {
        changes(0, 0, 1);
        changes(1, 1, 0);
        changes(2, 2, 0, 1);
        changes(3, 2, 1, 0);
        changes(1, 0, 2, 1, 3);
        changes(1, 1, 0, 3, 2, 5, 4);
        changes(0, 0, 1, 2, 3, 4, 5);
        changes(6, 5, 4, 3, 2, 1, 0);
        changes(5, 5, 0, 1, 2, 3, 4);
        changes(5, 1, 2, 3, 4, 5, 0);
        changes(4, 3, 2, 1, 0);
        changes(-2, 0, 0);
        changes(-2, 0, 2);
        changes(-2, 1, 2, 3);
        changes(-2, 0, 1, 2, 3, 4, 255);
        Checks.feed(bridge, 0, 1);
        for (int n : new int[] {1, 0, -1, 7, LOW, HIGH}) {
            C.due("changes(" + n + ")", bridge.changes(n), -1);
        }
        C.due("the tape stays", bridge.count(6), 20);
        bridge.changes(2);
        C.due("changes of no tape", bridge.changes(2), -1);
    }

    private static void dialect() {
        int[][] due = {{1, 0, 0, -2}, {1, 1, 2, 0}, {1, 8, 2, 0}, {8, 0, 0, -2}, {8, 8, 256, 0}, {8, 7, 254, 1},
            {8, 1, 2, 0x55}, {3, 1, 2, 2}, {3, 2, 6, 1}, {4, 2, 10, 2}, {5, 2, 16, 4}, {2, 1, 2, 1}};
        for (int[] d : due) {
            C.due("dialect(" + d[0] + ", " + d[1] + ", 0)", bridge.dialect(d[0], d[1], 0), d[2]);
            C.due("dialect(" + d[0] + ", " + d[1] + ", 1)", bridge.dialect(d[0], d[1], 1), d[3]);
        }
        int[][] wrong = {{0, 1, 0}, {9, 1, 0}, {1, -1, 0}, {1, 9, 0}, {1, 1, -1}, {1, 1, 2}, {LOW, LOW, 0}, {HIGH, HIGH, 0}};
        for (int[] w : wrong) {
            C.due("dialect wrong", bridge.dialect(w[0], w[1], w[2]), -1);
        }
    }

    private static void owed() {
        MiddleBridge x = new MiddleBridge();
        C.due("no debt", x.owed(1, 50), 0);
        Checks.orders(x, "d+200");
        C.due("owed(1, 0)", x.owed(1, 0), 200);
        C.due("owed(200, 0)", x.owed(200, 0), 1);
        C.due("owed(199, 0)", x.owed(199, 0), 2);
        C.due("owed(99999, 50)", x.owed(99999, 50), 1);
        C.due("owed(100, 50)", x.owed(100, 50), -2);
        C.due("owed(101, 50)", x.owed(101, 50), 12);
        C.due("it stays", x.count(2), 200);
        Checks.orders(x, "d+1");
        C.due("owed(1, 0)", x.owed(1, 0), -2);
        // 201 by a hundredth is 2.01, rounded up 3
        C.due("owed(3, 1)", x.owed(3, 1), -2);
        C.due("owed(203, 1)", x.owed(203, 1), 2);
        C.due("owed(204, 1)", x.owed(204, 1), 1);
        for (int i = 0; i < 7; i++) {
            Checks.orders(x, Checks.times("d+9999", 17, ";"));
        }
        C.due("the most debt", x.count(2), 999999);
        C.due("owed(1, 50)", x.owed(1, 50), -2);
        C.due("owed(99999, 0)", x.owed(99999, 0), 11);
        C.due("owed(5000, 0)", x.owed(5000, 0), 200);
        C.due("owed(4999, 0)", x.owed(4999, 0), -2);
        int[][] wrong = {{0, 0}, {-1, 0}, {100000, 0}, {1, -1}, {1, 51}, {LOW, LOW}, {HIGH, HIGH}};
        for (int[] w : wrong) {
            C.due("owed wrong", x.owed(w[0], w[1]), -1);
        }
    }
}
