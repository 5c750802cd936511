/** "A DAY" at its edges, and promises 7, 8, 11, 12 and 13. */
public final class DayEdgesTest {
    private static final Checks C = new Checks();

    public static void main(String[] args) {
        storeAtItsMost();
        debtAtItsMost();
        bothAskedAhead();
        drawsOfADay();
        asManyAsThereAre();
        whatTheyCost();
        leftFirst();
        oneAheadDoesNotWait();
        tillOneIsLacking();
        nothingToWaitFor();
        farAheadByOrders();
        byMoreThanTilt();
        tiltAtItsMost();
        losesItsLastArch();
        onceADay();
        nothingToLose();
        theLastDay();
        asManyDaysAsCan();
        leastAndMostDays();
        nothingIsChanged();
        touches();
        touchesNoMore();
        ahead();
        beyond();
        C.end("DayEdgesTest");
    }

    private static final String MOST_STORE = Checks.times("s+9999", 10, ";") + ";s+9";

    private static void mostDebt(MiddleBridge x) {
        for (int i = 0; i < 7; i++) {
            Checks.orders(x, Checks.times("d+9999", 15, ";"));
        }
    }

    /** "STORE is more by i (its most at most)": 99999. */
    private static void storeAtItsMost() {
        for (int less = 0; less <= 5; less++) {
            MiddleBridge x = C.bridge("", "", "i3(1=1)", MOST_STORE + ";s-" + less);
            C.due("tried, " + less + " below", x.tried(1, 3), Math.min(99999, 99999 - less + 3));
            x.days(1);
            C.due("store, " + less + " below", x.count(1), Math.min(99999, 99999 - less + 3));
        }
        // what is laid on that DAY comes out of the STORE that is full
        MiddleBridge y = C.bridge("9", "", "i999(1=1);w9(1=1)", MOST_STORE);
        C.due("store behind a full one", y.tried(1, 3), 99990);
        C.due("full again", y.tried(2, 3), 99999);
    }

    /** "DEBT by n (its most at most)", "DEBT more by c for each": 999999. */
    private static void debtAtItsMost() {
        for (int less = 0; less <= 20; less += 4) {
            MiddleBridge x = C.bridge("9", "", "n8(1=1)", "");
            mostDebt(x);
            Checks.orders(x, "d-" + less);
            C.due("n, " + less + " below", x.tried(1, 2), Math.min(999999, 999999 - less + 8));
            Checks.law(x, "w2(1=1);c4(1=1)");
            Checks.orders(x, "s+2");
            C.due("c, " + less + " below", x.tried(1, 2), Math.min(999999, 999999 - less + 8));
            C.due("they are laid all the same", x.tried(1, 0), 2);
        }
        MiddleBridge y = C.bridge("255", "255", "n9999(1=1);w99(1=1);c99(1=1)", "s+9999");
        mostDebt(y);
        C.due("all at once", y.tried(3, 2), 999999);
    }

    /** (1) "both asked ahead": i and n see STORE and DEBT as they were; w and c, too, see what was ahead of their laying. */
    private static void bothAskedAhead() {
        MiddleBridge x = C.bridge("", "", "i5+s+k(1=1);n100+s+k(1=1)", "s+7;d+300");
        x.days(1);
        C.due("store", x.count(1), 7 + 5 + 7 + 3);
        C.due("debt", x.count(2), 300 + 100 + 7 + 3);
        MiddleBridge y = C.bridge("", "", "n100+s+k(1=1);i5+s+k(1=1)", "s+7;d+300");
        y.days(1);
        C.due("store, the rules the other way round", y.count(1), 22);
        C.due("debt, the rules the other way round", y.count(2), 410);
        MiddleBridge z = C.bridge("6,7", "", "w6(1=1);cs+a+h+k(1=1)", "s+20;d+100");
        z.days(1);
        C.due("c is asked ahead of what w does", z.count(2), 100 + 6 * (20 + 0 + 6 + 1));
        // (1) is ahead of (2): what comes to STORE is laid on the same DAY
        MiddleBridge u = C.bridge("9", "", "i4(1=1);w9(1=1);n100(1=1);ck(1=1)", "");
        C.due("laid of what has come", u.days(1), 4);
        C.due("c sees the debt that has grown", u.count(2), 100 + 4);
    }

    /** A DRAW for (1), and one for each side that does not TOUCH, whether it works or not. */
    private static void drawsOfADay() {
        int[] behind = {39022, 61087, 20196};
        MiddleBridge none = C.bridge("", "", "", "");
        none.days(1);
        C.due("without plans three draws", none.count(7), behind[2]);
        MiddleBridge idle = C.bridge("5", "5", "x(1=1)", "");
        idle.days(1);
        C.due("sides that refuse draw, too", idle.count(7), behind[2]);
        MiddleBridge left = C.bridge("5", "5", "", "l+5");
        left.days(1);
        C.due("a side that touches does not", left.count(7), behind[1]);
        MiddleBridge right = C.bridge("5", "5", "", "r+5");
        right.days(1);
        C.due("a side that touches does not", right.count(7), behind[1]);
        MiddleBridge both = C.bridge("5", "5", "", "l+5;r+5");
        both.days(1);
        C.due("both touch: one draw", both.count(7), behind[0]);
        both.days(2);
        C.due("one a day", both.count(7), behind[2]);
        // the right one has the second draw then: 7
        MiddleBridge u = C.bridge("5", "9", "wr(1=1)", "l+5;s+9");
        C.due("the right one's draw", u.days(1), 7);
        // one that touches by what it lays has drawn; the next DAY it does not
        MiddleBridge v = C.bridge("5", "5", "w5(e=0)", "s+9");
        v.days(1);
        C.due("it has drawn", v.count(7), behind[2]);
        v.days(1);
        C.due("no more", v.count(7), 3882);
    }

    /** "It lays w STONES, as many as there are in STORE and as its PLAN still needs at most". */
    private static void asManyAsThereAre() {
        for (int stored = 0; stored <= 9; stored++) {
            for (int wanted = 0; wanted <= 9; wanted++) {
                for (int needs = 1; needs <= 9; needs += 2) {
                    MiddleBridge x = C.bridge(needs + "", "", "w" + wanted + "(1=1);c3(1=1)", "s+" + stored);
                    int due = Math.min(stored, Math.min(wanted, needs));
                    C.due("days(1)", x.days(1), due);
                    C.due("laid", x.sideIs(0, 2), due);
                    C.due("store", x.count(1), stored - due);
                    C.due("debt", x.count(2), 3 * due);
                }
            }
        }
        MiddleBridge x = C.bridge("9,9", "", "w99(1=1)", "s+99;l+17");
        C.due("of the whole plan", x.days(1), 1);
        MiddleBridge over = C.bridge("5", "", "w9(1=1);c9(1=1)", "s+9;l+6");
        C.due("more than the plan needs is laid", over.days(1), 0);
        C.due("it stays", over.sideIs(0, 2), 6);
        C.due("it costs nothing", over.count(2), 0);
    }

    private static void whatTheyCost() {
        MiddleBridge x = C.bridge("99", "99", "w10(1=1);c7(e=0);c9(e=1)", "s+13");
        C.due("days(1)", x.days(1), 13);
        C.due("ten of the left, three of the right", x.count(2), 10 * 7 + 3 * 9);
        MiddleBridge y = C.bridge("255", "", "w99(1=1);c99(1=1)", "s+99");
        y.days(1);
        C.due("the most of a side", y.count(2), 9801);
    }

    /** "Left first ... all as it is then". */
    private static void leftFirst() {
        MiddleBridge x = C.bridge("9", "9", "w9(1=1)", "s+9");
        x.days(1);
        C.due("all to the left", x.sideIs(0, 2), 9);
        C.due("none to the right", x.sideIs(1, 2), 0);
        MiddleBridge y = C.bridge("9", "9", "w9(e=0);w9(s=0);w4(s=1)", "s+10;l+0");
        C.due("the right one sees the store that is left", y.days(1), 10);
        C.due("the right one asked for w of s=1", y.sideIs(1, 2), 1);
    }

    /** "An ARCH of this side's that is more than one ahead of the other side's that stand waits". */
    private static void oneAheadDoesNotWait() {
        MiddleBridge x = C.bridge("5,5,5,5", "5,5,5,5", "w99(e=0)", "s+500");
        C.due("one ahead is built, of the next one all but one stone", x.tried(1, 0), 9);
        C.due("one stands", x.tried(1, 10), 1);
        Checks.orders(x, "r+4");
        C.due("the other one lacks one stone", x.tried(1, 0), 9);
        Checks.orders(x, "r+1");
        C.due("one of the other one's stands", x.tried(1, 0), 14);
        Checks.orders(x, "r+5");
        C.due("two of the other one's stand", x.tried(1, 0), 19);
        C.due("three of left stand", x.tried(1, 10), 3);
        Checks.orders(x, "r+5");
        C.due("three of the other one's stand", x.tried(1, 0), 20);
        MiddleBridge y = C.bridge("5,5", "5,5,5", "w99(e=1)", "s+500");
        C.due("the right one waits, too", y.tried(1, 0), 9);
    }

    /** "Of it STONES are laid only till one is lacking; the others stay in STORE, they cost nothing". */
    private static void tillOneIsLacking() {
        for (int wanted = 5; wanted <= 12; wanted++) {
            MiddleBridge x = C.bridge("5,5,5", "5", "w" + wanted + "(e=0);c2(1=1)", "s+50");
            int due = Math.min(wanted, 9);
            C.due("w" + wanted, x.days(1), due);
            C.due("laid", x.sideIs(0, 2), due);
            C.due("store", x.count(1), 50 - due);
            C.due("debt", x.count(2), 2 * due);
            C.due("arches that stand", x.sideIs(0, 1), 1);
        }
        MiddleBridge x = C.bridge("5,1,5", "5", "w99(e=0);c2(1=1)", "s+50");
        C.due("of an arch of one stone none", x.days(1), 5);
        C.due("none on the next day", x.days(9), 0);
        C.due("debt", x.count(2), 10);
        MiddleBridge y = C.bridge("5,5,5", "5", "w99(e=0);c2(1=1)", "s+50;l+9");
        C.due("one is lacking as it is", y.days(1), 0);
        C.due("h", y.sideIs(0, 3), 1);
        // what stays in STORE is there for the other side
        MiddleBridge z = C.bridge("5,5,5", "7", "w99(1=1)", "s+16");
        C.due("both", z.days(1), 16);
        C.due("left", z.sideIs(0, 2), 9);
        C.due("right", z.sideIs(1, 2), 7);
    }

    /** "While the other side has ARCHES still to build". */
    private static void nothingToWaitFor() {
        MiddleBridge none = C.bridge("5,5,5,5", "", "w99(e=0)", "s+500");
        C.due("without a plan of the other one", none.tried(1, 0), 20);
        MiddleBridge built = C.bridge("5,5,5,5", "3", "w99(e=0)", "s+500;r+3");
        C.due("the other one touches", built.tried(1, 0), 20);
        Checks.orders(built, "r-1");
        C.due("it has one to build", built.tried(1, 0), 9);
        Checks.orders(built, "r+1");
        Checks.plan(built, 1, "3,1");
        C.due("it has one to build by a new plan", built.tried(1, 0), 14);
        // the right one need not wait when the left one has touched the same DAY
        MiddleBridge x = C.bridge("5", "5,5,5", "w99(1=1)", "s+500");
        C.due("left first", x.days(1), 20);
        MiddleBridge y = C.bridge("5,5,5", "5", "w99(1=1)", "s+500");
        C.due("the left one waits for the right one", y.days(1), 9 + 5);
        C.due("the next day it does not", y.days(1), 6);
    }

    private static void farAheadByOrders() {
        MiddleBridge x = C.bridge("5,5,5,5,5", "5,5", "w99(e=0);c1(1=1)", "s+500;l+17");
        C.due("three stand, of the fourth one is lacking", x.days(1), 2);
        C.due("laid", x.sideIs(0, 2), 19);
        C.due("debt", x.count(2), 2);
        C.due("none on the next day", x.days(1), 0);
        MiddleBridge y = C.bridge("5,5,5,5,5", "5,5", "w99(e=0)", "s+500;l+25");
        C.due("all stand", y.days(1), 0);
        MiddleBridge z = C.bridge("5,5,5,5,5", "5,5", "w99(e=0)", "s+500;l+20");
        C.due("of the last one all but one", z.days(1), 4);
    }

    /** (3) "Differ both WEIGHTS by more than TILT": as much as TILT is not more. */
    private static void byMoreThanTilt() {
        for (int tilt = 0; tilt <= 30; tilt++) {
            MiddleBridge x = C.bridge("10,5", "7", "", "l+15;r+7");
            x.tilt(tilt);
            C.due("left 20, right 7, tilt " + tilt, x.tried(1, 1), tilt < 13 ? 1 : 0);
            C.due("left then", x.tried(1, 10), tilt < 13 ? 1 : 2);
            C.due("right then", x.tried(1, 11), 1);
            MiddleBridge y = C.bridge("7", "10,5", "", "r+15;l+7");
            y.tilt(tilt);
            C.due("right 20, left 7, tilt " + tilt, y.tried(1, 1), tilt < 13 ? 1 : 0);
            C.due("right then", y.tried(1, 11), tilt < 13 ? 1 : 2);
            C.due("left then", y.tried(1, 10), 1);
        }
        MiddleBridge like = C.bridge("5,5", "15", "", "l+10;r+15");
        like.tilt(0);
        C.due("like weights at tilt 0", like.tried(9, 1), 0);
        // a BENCH alone may be too much
        Checks.orders(like, "rb1:1");
        C.due("a bench more", like.tried(1, 1), 1);
        Checks.orders(like, "rb1:0;lb2:1");
        C.due("a bench at the other side", like.tried(1, 10), 1);
        // it is asked behind what was laid on that DAY
        MiddleBridge z = C.bridge("5", "5", "w5(1=1)", "s+5");
        z.tilt(4);
        C.due("it stood for no evening", z.days(1), 5);
        C.due("left", z.sideIs(0, 2), 0);
        C.due("fallen", z.count(3), 1);
        MiddleBridge both = C.bridge("5", "5", "w5(1=1)", "s+10");
        both.tilt(0);
        C.due("both on one day", both.tried(1, 1), 0);
    }

    /** TILT 99999 at first: WEIGHTS can differ by more. */
    private static void tiltAtItsMost() {
        MiddleBridge x = C.bridge("9x255,9x255,2x255", "", "", "l+5100");
        for (int arch = 20; arch >= 8; arch--) {
            Checks.orders(x, "lb" + arch + ":255");
        }
        Checks.orders(x, "lb1:39");
        C.due("they differ by", x.count(8), 99999);
        C.due("none falls", x.tried(1, 1), 0);
        Checks.orders(x, "lb1:40");
        C.due("they differ by", x.count(8), 100000);
        C.due("one falls", x.tried(1, 1), 1);
        C.due("one alone", x.tried(2, 1), 1);
        C.due("19 stand", x.tried(1, 10), 19);
    }

    /** "Its STONES laid are as many as for those ahead of it". */
    private static void losesItsLastArch() {
        MiddleBridge x = C.bridge("3,4,5", "", "", "l+11;s+6;d+7;lb2:9;lb3:8");
        x.tilt(2);
        C.due("days(1)", x.days(1), 0);
        C.due("those begun fall, too", x.sideIs(0, 2), 3);
        C.due("arches that stand", x.sideIs(0, 1), 1);
        C.due("fallen", x.count(3), 1);
        C.due("they come not to the store", x.count(1), 6);
        C.due("debt", x.count(2), 7);
        C.due("benches stay", x.archIs(0, 2, 2), 9);
        x.days(1);
        C.due("none is left", x.sideIs(0, 2), 0);
        C.due("fallen", x.count(3), 2);
        MiddleBridge over = C.bridge("3,4", "", "", "l+9999");
        over.tilt(10);
        over.days(1);
        C.due("what was laid beyond the plan", over.sideIs(0, 2), 3);
        C.due("it touches no more", over.sideIs(0, 5), 0);
    }

    /** "FALLEN is one more (once a DAY)". */
    private static void onceADay() {
        MiddleBridge x = C.bridge("5x1", "", "", "l+5");
        x.tilt(0);
        for (int day = 1; day <= 7; day++) {
            C.due("fallen in " + day, x.tried(day, 1), Math.min(day, 5));
            C.due("left in " + day, x.tried(day, 10), Math.max(5 - day, 0));
        }
        // the one that is heavier then: left 15, right 10, then left 10 - 5, right 10
        MiddleBridge y = C.bridge("5,5", "10", "", "l+10;r+10");
        y.tilt(4);
        C.due("both by turns", y.tried(2, 1), 2);
        C.due("left first", y.tried(1, 10), 1);
        C.due("then right", y.tried(2, 11), 0);
        C.due("then left again", y.tried(3, 10), 0);
        C.due("three in all", y.tried(9, 1), 3);
    }

    /** "A side on which no ARCH stands loses nothing". */
    private static void nothingToLose() {
        MiddleBridge x = C.bridge("5", "5", "", "l+4;r+4;lb1:9");
        x.tilt(0);
        C.due("stones of no arch weigh nothing", x.tried(9, 1), 0);
        C.due("days(9)", x.days(9), 0);
        C.due("left", x.sideIs(0, 2), 4);
        MiddleBridge y = C.bridge("5", "5", "", "l+4;r+5");
        y.tilt(0);
        y.days(1);
        C.due("the lighter side loses nothing", y.sideIs(0, 2), 4);
        C.due("the heavier one does", y.sideIs(1, 2), 0);
    }

    private static void skip(MiddleBridge x, int day) {
        while (x.count(0) < day) {
            x.days(Math.min(240, day - x.count(0)));
        }
    }

    /** "THE DAY is one more (9999 at most: then none goes by)". */
    private static void theLastDay() {
        MiddleBridge x = C.bridge("255", "", "", "");
        skip(x, 9998);
        Checks.law(x, "i5(1=1);n6(1=1);w1(1=1)");
        C.due("the last one goes by", x.tried(1, 2), 6);
        C.due("no more than that", x.tried(240, 2), 6);
        C.due("days(1)", x.days(1), 1);
        C.due("the day", x.count(0), 9999);
        Checks.orders(x, "l+254;s+9");
        x.tilt(0);
        String before = Looks.of(x);
        int drawn = x.count(7);
        C.due("days(1) then", x.days(1), 0);
        C.due("days(240) then", x.days(240), 0);
        C.due("nothing falls, comes, is paid or drawn", Looks.of(x).equals(before), true);
        C.due("X", x.count(7), drawn);
        for (int what : new int[] {0, 1}) {
            C.due("tried(240, " + what + ")", x.tried(240, what), 0);
        }
        C.due("it touches now", x.touches(240, 0), 0);
        C.due("ahead is asked now", x.ahead(240), 1);
        C.due("beyond is asked now", x.beyond(240, 5), 0);
        C.due("beyond no more", x.beyond(240, 6), -2);
        Checks.orders(x, "l-1");
        C.due("it will never touch", x.touches(240, 0), -2);
        C.due("keep()", x.keep(), 9999);
    }

    /** "DAYS (1 to 240; as many as can)". */
    private static void asManyDaysAsCan() {
        MiddleBridge x = C.bridge("", "", "", "");
        skip(x, 9990);
        Checks.law(x, "n1(1=1)");
        C.due("tried(9, 2)", x.tried(9, 2), 9);
        C.due("tried(10, 2)", x.tried(10, 2), 9);
        C.due("beyond(10, 8)", x.beyond(10, 8), 9);
        C.due("beyond(10, 9)", x.beyond(10, 9), -2);
        x.days(240);
        C.due("the day", x.count(0), 9999);
        C.due("debt", x.count(2), 9);
    }

    private static void leastAndMostDays() {
        MiddleBridge x = C.bridge("2x240", "", "w1(1=1);n1(1=1)", "s+9999");
        C.due("tried(1, 0)", x.tried(1, 0), 1);
        C.due("tried(240, 0)", x.tried(240, 0), 240);
        C.due("tried(240, 10)", x.tried(240, 10), 1);
        C.due("tried(239, 10)", x.tried(239, 10), 0);
        C.due("days(1)", x.days(1), 1);
        C.due("days(240)", x.days(240), 240);
        C.due("the day", x.count(0), 241);
        C.due("days(239)", x.days(239), 239);
        C.due("the day", x.count(0), 480);
        C.due("it touches", x.sideIs(0, 5), 1);
    }

    /** TRIED: "nothing is changed", by no question. */
    private static void nothingIsChanged() {
        MiddleBridge x = C.bridge("5,6,7", "8,9", "i9(r>3);n5(1=1);w4(1=1);c3(r<6)", "s+20;d+30;lb1:2;l+4;r+8");
        x.tilt(12);
        x.days(2);
        x.keep();
        Checks.orders(x, "s+3");
        String before = Looks.of(x);
        for (int what : new int[] {0, 1, 2, 3, 10, 11}) {
            x.tried(240, what);
        }
        x.touches(240, 0);
        x.touches(240, 1);
        x.ahead(240);
        x.beyond(240, 0);
        x.beyond(240, 999999);
        x.inARow();
        C.due("all is as it was", Looks.of(x).equals(before), true);
        int drawn = x.count(7);
        int debt = x.tried(3, 2);
        x.days(3);
        C.due("what was tried comes to be", x.count(2), debt);
        C.due("X goes on", x.count(7) != drawn, true);
        x.undo();
        C.due("what was kept stays", x.count(0), 2);
    }

    /** TOUCHES "behind how many (0: one does) ... (both on one DAY: 2)"; "-2: not in these". */
    private static void touches() {
        for (int left = 1; left <= 6; left++) {
            for (int right = 1; right <= 6; right++) {
                MiddleBridge x = C.bridge(left + "", right + "", "w1(1=1)", "s+99;l+1;r+1");
                int first = Math.min(left, right) - 1;
                for (int n = 1; n <= 6; n++) {
                    C.due("touches(" + n + ", 0)", x.touches(n, 0), n < first ? -2 : first);
                    C.due("touches(" + n + ", 1)", x.touches(n, 1), n < first ? -2 : left < right ? 0 : right < left ? 1 : 2);
                }
            }
        }
        MiddleBridge x = C.bridge("", "", "", "");
        C.due("without plans never", x.touches(240, 0), -2);
        C.due("without plans neither", x.touches(240, 1), -2);
        MiddleBridge y = C.bridge("240", "", "w1(1=1)", "s+999");
        C.due("on the last one", y.touches(240, 0), 240);
        C.due("not in one less", y.touches(239, 0), -2);
        C.due("not in one less, which", y.touches(239, 1), -2);
        C.due("which", y.touches(240, 1), 0);
    }

    /** A side that does now, though it will fall. */
    private static void touchesNoMore() {
        MiddleBridge x = C.bridge("9", "2", "w1(e=1)", "s+9;l+9");
        x.tilt(0);
        C.due("now", x.touches(9, 0), 0);
        C.due("which", x.touches(9, 1), 0);
        x.days(1);
        C.due("it has fallen", x.sideIs(0, 5), 0);
        C.due("what falls on the day on which it is built touches never", x.touches(9, 0), -2);
    }

    /** AHEAD "at the ends of n DAYS that are tried (now, too)". */
    private static void ahead() {
        MiddleBridge none = C.bridge("", "", "", "");
        C.due("without plans", none.ahead(240), 0);
        MiddleBridge x = C.bridge("9x1", "", "", "l+9");
        x.tilt(0);
        C.due("now nine, then fewer", x.ahead(1), 9);
        MiddleBridge y = C.bridge("", "9x1", "w1(1=1)", "s+9;r+2");
        C.due("ahead(1)", y.ahead(1), 3);
        C.due("ahead(6)", y.ahead(6), 8);
        C.due("ahead(7)", y.ahead(7), 9);
        C.due("ahead(240)", y.ahead(240), 9);
        // the right one goes from two behind to one ahead
        MiddleBridge z = C.bridge("2x1", "3x1", "w1(e=1)", "s+9;l+2");
        C.due("the most, not the last", z.ahead(3), 2);
        MiddleBridge most = C.bridge("9x1,9x1,2x1", "", "", "l+20");
        C.due("twenty", most.ahead(1), 20);
    }

    /** BEYOND "a sum (0 to 999999) in n DAYS (0: it is now); -2: not in these": as much is not above. */
    private static void beyond() {
        MiddleBridge x = C.bridge("", "", "n10(1=1)", "d+5");
        int[][] due = {{0, 0}, {4, 0}, {5, 1}, {14, 1}, {15, 2}, {24, 2}, {25, -2}, {999999, -2}};
        for (int[] d : due) {
            C.due("beyond(2, " + d[0] + ")", x.beyond(2, d[0]), d[1]);
        }
        C.due("beyond(1, 15)", x.beyond(1, 15), -2);
        C.due("beyond(240, 2404)", x.beyond(240, 2404), 240);
        C.due("beyond(239, 2404)", x.beyond(239, 2404), -2);
        C.due("beyond(240, 2405)", x.beyond(240, 2405), -2);
        MiddleBridge none = C.bridge("", "", "", "");
        C.due("no debt is not above 0", none.beyond(240, 0), -2);
        mostDebt(x);
        C.due("the most debt", x.count(2), 999999);
        C.due("above one less", x.beyond(1, 999998), 0);
        C.due("never above the most", x.beyond(240, 999999), -2);
    }
}
