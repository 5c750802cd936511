/** "Terms": of each side STONES, ARCHES that stand, TOUCHES, WEIGHT at their edges; promises 9 and 10. */
public final class SidesEdgesTest {
    private static final Checks C = new Checks();
    private static final String TWENTY = "9x255,9x255,2x255";

    public static void main(String[] args) {
        standing();
        oneBehindTheOther();
        withAPlanAlone();
        theMostStones();
        weight();
        benchesBeyondThePlan();
        newPlan();
        shorterPlan();
        sidesAreApart();
        numbersOfArches();
        C.end("SidesEdgesTest");
    }

    private static void laid(MiddleBridge x, int side, int stones) {
        String letter = side == 0 ? "l" : "r";
        Checks.orders(x, letter + "-9999;" + letter + "+" + stones);
    }

    private static void sideIs(MiddleBridge x, int side, int... due) {
        for (int what = 0; what < due.length; what++) {
            C.due("sideIs(" + side + ", " + what + ") of " + x.sideIs(side, 2) + " laid", x.sideIs(side, what), due[what]);
        }
    }

    /** "ARCHES that stand (as many from the first on as these STONES are enough for)": one STONE less, as many, one more. */
    private static void standing() {
        for (int side = 0; side < 2; side++) {
            MiddleBridge x = new MiddleBridge();
            Checks.plan(x, side, "10,1,5");
            int[][] due = {{0, 0, 10, 0}, {1, 0, 9, 0}, {9, 0, 1, 0}, {10, 1, 1, 10}, {11, 2, 5, 12}, {12, 2, 4, 12},
                {15, 2, 1, 12}, {16, 3, 0, 27}, {17, 3, 0, 27}, {9999, 3, 0, 27}};
            for (int[] d : due) {
                laid(x, side, d[0]);
                sideIs(x, side, 3, d[1], d[0], d[2], d[3], d[0] >= 16 ? 1 : 0, 16);
                for (int arch = 1; arch <= 3; arch++) {
                    C.due("arch " + arch + " of " + d[0] + " laid", x.archIs(side, arch, 1), arch <= d[1] ? 1 : 0);
                }
            }
        }
    }

    /** "One behind the other": a small ARCH does not stand ahead of a great one next to the middle. */
    private static void oneBehindTheOther() {
        MiddleBridge x = new MiddleBridge();
        Checks.plan(x, 0, "255,1,1");
        laid(x, 0, 254);
        sideIs(x, 0, 3, 0, 254, 1, 0, 0, 257);
        laid(x, 0, 256);
        sideIs(x, 0, 3, 2, 256, 1, 257, 0, 257);
    }

    /** "It TOUCHES its bank when all its ARCHES stand (with a PLAN alone)". */
    private static void withAPlanAlone() {
        MiddleBridge x = new MiddleBridge();
        sideIs(x, 0, 0, 0, 0, 0, 0, 0, 0);
        laid(x, 0, 9999);
        sideIs(x, 0, 0, 0, 9999, 0, 0, 0, 0);
        C.due("touches(1, 0)", x.touches(1, 0), -2);
        Checks.plan(x, 0, "1");
        C.due("with a plan it touches", x.sideIs(0, 5), 1);
        C.due("touches(1, 0)", x.touches(1, 0), 0);
        laid(x, 0, 0);
        C.due("without its stone not", x.sideIs(0, 5), 0);
    }

    /** 20 ARCHES of 255 STONES, a BENCH of 255 at each. */
    private static void theMostStones() {
        MiddleBridge x = new MiddleBridge();
        C.due("plan", Checks.plan(x, 1, TWENTY), 20);
        laid(x, 1, 5099);
        sideIs(x, 1, 20, 19, 5099, 1, 255 * 190, 0, 5100);
        laid(x, 1, 5100);
        sideIs(x, 1, 20, 20, 5100, 0, 255 * 210, 1, 5100);
        for (int arch = 1; arch <= 20; arch++) {
            Checks.orders(x, "rb" + arch + ":255");
        }
        sideIs(x, 1, 20, 20, 5100, 0, 510 * 210, 1, 5100);
        C.due("count(8)", x.count(8), 510 * 210);
    }

    /** "Each ARCH that stands, STONES of it times its place (1 on); each BENCH at an ARCH that stands". */
    private static void weight() {
        MiddleBridge x = new MiddleBridge();
        Checks.plan(x, 0, "3,5,7");
        Checks.orders(x, "lb1:2;lb2:10;lb3:100");
        int[][] due = {{0, 0}, {2, 0}, {3, 5}, {7, 5}, {8, 35}, {14, 35}, {15, 356}, {99, 356}};
        for (int[] d : due) {
            laid(x, 0, d[0]);
            C.due("weight of " + d[0] + " laid", x.sideIs(0, 4), d[1]);
            C.due("count(8) of " + d[0] + " laid", x.count(8), d[1]);
        }
        Checks.plan(x, 1, "9");
        laid(x, 1, 9);
        C.due("they differ by", x.count(8), 347);
        laid(x, 0, 3);
        C.due("the right one is heavier", x.count(8), 4);
    }

    /** "BENCHES beyond it are not asked", yet they stay. */
    private static void benchesBeyondThePlan() {
        MiddleBridge x = new MiddleBridge();
        Checks.orders(x, "lb2:50;l+9");
        C.due("no plan: no weight", x.sideIs(0, 4), 0);
        Checks.plan(x, 0, "4");
        C.due("beyond the plan: no weight", x.sideIs(0, 4), 4);
        C.due("beyond the plan: no bench is told", x.archIs(0, 2, 2), -1);
        Checks.plan(x, 0, "4,5");
        C.due("within the plan", x.sideIs(0, 4), 4 + 2 * 55);
        C.due("within the plan", x.archIs(0, 2, 2), 50);
    }

    /** "STONES laid, BENCHES stay by a new PLAN"; DEBT, STORE, THE DAY, too. */
    private static void newPlan() {
        MiddleBridge x = new MiddleBridge();
        Checks.plan(x, 0, "9x5");
        Checks.orders(x, "l+30;lb1:1;s+2;d+3");
        x.days(1);
        C.due("six stand", x.sideIs(0, 1), 6);
        Checks.plan(x, 0, "31,2");
        sideIs(x, 0, 2, 0, 30, 1, 0, 0, 33);
        Checks.plan(x, 0, "10");
        sideIs(x, 0, 1, 1, 30, 0, 11, 1, 10);
        C.due("arch 2 is gone", x.archIs(0, 2, 0), -1);
        Checks.plan(x, 0, "9x5");
        C.due("six stand again", x.sideIs(0, 1), 6);
        C.due("arch 9", x.archIs(0, 9, 0), 5);
        C.due("store", x.count(1), 2);
        C.due("debt", x.count(2), 3);
        C.due("the day", x.count(0), 1);
    }

    /** A shorter PLAN in place of a longer one: no ARCH of the one before is left. */
    private static void shorterPlan() {
        for (int side = 0; side < 2; side++) {
            for (int many = 20; many >= 1; many--) {
                MiddleBridge x = new MiddleBridge();
                Checks.plan(x, side, Checks.times("5", 20, ","));
                laid(x, side, 100);
                C.due("20 stand", x.sideIs(side, 1), 20);
                Checks.plan(x, side, Checks.times("5", many, ","));
                sideIs(x, side, many, many, 100, 0, 5 * many * (many + 1) / 2, 1, 5 * many);
                laid(x, side, 5 * many + 6);
                C.due("no more than there are", x.sideIs(side, 1), many);
                laid(x, side, 5 * many - 1);
                C.due("one lacks a stone", x.sideIs(side, 1), many - 1);
                C.due("h", x.sideIs(side, 3), 1);
            }
        }
    }

    private static void sidesAreApart() {
        MiddleBridge x = new MiddleBridge();
        Checks.plan(x, 0, "5,6");
        Checks.plan(x, 1, "7");
        Checks.orders(x, "l+5;lb1:9");
        sideIs(x, 0, 2, 1, 5, 6, 14, 0, 11);
        sideIs(x, 1, 1, 0, 0, 7, 0, 0, 7);
        C.due("arch 1 left", x.archIs(0, 1, 0), 5);
        C.due("arch 1 right", x.archIs(1, 1, 0), 7);
        C.due("bench right", x.archIs(1, 1, 2), 0);
    }

    /** ARCH i: 1 and the last one are there, 0 and the one behind are not. */
    private static void numbersOfArches() {
        MiddleBridge x = new MiddleBridge();
        for (int many = 1; many <= 20; many++) {
            Checks.plan(x, 0, Checks.times("7", many, ","));
            C.due("arches", x.sideIs(0, 0), many);
            for (int what = 0; what <= 2; what++) {
                C.due("archIs of 0", x.archIs(0, 0, what), -1);
                C.due("archIs of 1", x.archIs(0, 1, what), what == 0 ? 7 : 0);
                C.due("archIs of the last", x.archIs(0, many, what), what == 0 ? 7 : 0);
                C.due("archIs behind the last", x.archIs(0, many + 1, what), -1);
                C.due("archIs of the side without a plan", x.archIs(1, 1, what), -1);
            }
        }
    }
}
