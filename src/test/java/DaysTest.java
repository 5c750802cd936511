/** Promises 7, 8, 11, 12, 13: days, tried, touches, ahead, beyond. */
public final class DaysTest {
    private static final Checks C = new Checks();

    public static void main(String[] args) {
        laying();
        waiting();
        falling();
        bounds();
        asking();
        askingNow();
        refused();
        C.end("DaysTest");
    }

    private static void laying() {
        MiddleBridge x = C.bridge("10,10", "10,10", "w7(1=1);c3(1=1);i4(1=1);n2(1=1)", "s+6");
        // 10 in store: 7 left, 3 right, 10 * 3 and 2 pence
        C.due("days(1)", x.days(1), 10);
        C.due("left", x.sideIs(0, 2), 7);
        C.due("right", x.sideIs(1, 2), 3);
        C.due("store", x.count(1), 0);
        C.due("debt", x.count(2), 32);
        C.due("the day", x.count(0), 1);
        C.due("days(2)", x.days(2), 8);
        C.due("left", x.sideIs(0, 2), 15);
        C.due("right", x.sideIs(1, 2), 3);
        C.due("debt", x.count(2), 32 + 24 + 4);
        // the left one lays no more than its plan needs, the right one has the rest
        MiddleBridge y = C.bridge("3", "10", "w9(1=1)", "s+10");
        C.due("days(1)", y.days(1), 10);
        C.due("left", y.sideIs(0, 2), 3);
        C.due("right", y.sideIs(1, 2), 7);
        // more laid than the plan needs
        MiddleBridge z = C.bridge("3", "", "w9(1=1)", "s+10;l+5;r+5");
        C.due("days(1)", z.days(1), 0);
        C.due("left", z.sideIs(0, 2), 5);
        C.due("right without a plan", z.sideIs(1, 2), 5);
        // the right one sees the store and the debt as they are then
        MiddleBridge v = C.bridge("99", "99", "w10(e=0);ws(e=1);c100(e=0);ck(e=1)", "s+13");
        C.due("days(1)", v.days(1), 13);
        C.due("debt", v.count(2), 10 * 99 + 3 * 9);
        // the store and the debt that i and n see are those ahead of both
        MiddleBridge u = C.bridge("1", "1", "ns(1=1);i5+k(1=1)", "s+7;d+300");
        C.due("days(1)", u.days(1), 0);
        C.due("debt", u.count(2), 307);
        C.due("store", u.count(1), 15);
    }

    private static void waiting() {
        // the second arch waits for the right one's first
        MiddleBridge x = C.bridge("10,10,10", "10,10", "w99(e=0)", "s+100");
        C.due("days(1)", x.days(1), 19);
        C.due("store", x.count(1), 81);
        C.due("days(1)", x.days(1), 0);
        Checks.orders(x, "r+10");
        C.due("days(1)", x.days(1), 10);
        C.due("left", x.sideIs(0, 2), 29);
        Checks.orders(x, "r+10");
        // the right one touches: nothing waits for it
        C.due("days(1)", x.days(1), 1);
        C.due("left touches", x.sideIs(0, 5), 1);
        // far ahead by orders: the next one waits, too
        MiddleBridge y = C.bridge("5,5,5,5", "5,5", "w99(e=0)", "s+100;l+11");
        C.due("days(1)", y.days(1), 3);
        C.due("left", y.sideIs(0, 2), 14);
        // without a plan of the other side nothing waits
        MiddleBridge z = C.bridge("5,5,5,5", "", "w99(e=0)", "s+100");
        C.due("days(1)", z.days(1), 20);
        // of an arch of one stone none is laid
        MiddleBridge v = C.bridge("5,1,1", "5", "w99(e=0);c1(1=1)", "s+100");
        C.due("days(1)", v.days(1), 5);
        C.due("they cost nothing", v.count(2), 5);
        // the right one may go on in the same day by what the left one has built then
        MiddleBridge u = C.bridge("5,5", "5,5", "w5(e=0);w99(e=1)", "s+100");
        C.due("days(1)", u.days(1), 15);
        C.due("right touches", u.sideIs(1, 5), 1);
        MiddleBridge t = C.bridge("5,5", "5,5", "w4(e=0);w99(e=1)", "s+100");
        C.due("days(1)", t.days(1), 13);
    }

    private static void falling() {
        MiddleBridge x = C.bridge("10,20", "10,10", "w0(1=1)", "l+35;r+15;lb2:5");
        C.due("weights differ by", x.count(8), 50);
        x.tilt(50);
        C.due("none falls", x.tried(1, 1), 0);
        x.tilt(49);
        C.due("one falls", x.tried(1, 1), 1);
        C.due("days(1)", x.days(1), 0);
        C.due("left", x.sideIs(0, 2), 10);
        C.due("fallen", x.count(3), 1);
        C.due("its stones come not to store", x.count(1), 0);
        C.due("its bench stays", x.archIs(0, 2, 2), 5);
        C.due("weights differ by", x.count(8), 0);
        // the right one is the heavier one, once a day
        MiddleBridge y = C.bridge("1", "2,2,2", "w0(1=1)", "r+6");
        y.tilt(0);
        C.due("one a day", y.tried(1, 1), 1);
        C.due("right", y.tried(1, 11), 2);
        C.due("all of them", y.tried(9, 1), 3);
        C.due("none stands", y.tried(9, 11), 0);
        // one that touches falls and touches no more
        MiddleBridge z = C.bridge("5", "9", "w5(e=0)", "s+9");
        z.tilt(4);
        C.due("touches", z.touches(1, 0), -2);
        C.due("laid again each day", z.tried(9, 0), 9);
    }

    private static void bounds() {
        MiddleBridge x = C.bridge("255", "", "i999(1=1);n9999(1=1);w99(1=1);c99(1=1)", "");
        x.days(240);
        C.due("store", x.count(1), 99999);
        C.due("debt", x.count(2), 999999);
        for (int i = 0; i < 41; i++) {
            x.days(240);
        }
        C.due("the day", x.count(0), 9999);
        Checks.plan(x, 1, "99");
        C.due("none goes by", x.tried(240, 0), 0);
        Checks.orders(x, "l-1");
        C.due("none touches", x.touches(240, 0), -2);
        MiddleBridge y = C.bridge("2x255", "", "w1(1=1);i1(1=1)", "");
        for (int i = 0; i < 41; i++) {
            y.days(240);
        }
        Checks.plan(y, 1, "9x255");
        C.due("as many as can", y.days(240), 9999 - 9840);
    }

    private static void asking() {
        // left 2 a day, right 3 a day from the third day on
        MiddleBridge x = C.bridge("6,6", "6", "w2(e=0);w3(t>1);c5(1=1)", "s+50;l+1;d+10");
        int[] before = state(x);
        C.due("touches(240, 0)", x.touches(240, 0), 4);
        C.due("touches(4, 0)", x.touches(4, 0), 4);
        C.due("touches(3, 0)", x.touches(3, 0), -2);
        C.due("touches(3, 1)", x.touches(3, 1), -2);
        C.due("touches(4, 1)", x.touches(4, 1), 1);
        C.due("ahead(2)", x.ahead(2), 0);
        C.due("ahead(3)", x.ahead(3), 1);
        C.due("ahead(240)", x.ahead(240), 1);
        C.due("beyond(9, 9)", x.beyond(9, 9), 0);
        C.due("beyond(9, 10)", x.beyond(9, 10), 1);
        C.due("beyond(9, 19)", x.beyond(9, 19), 1);
        C.due("beyond(9, 20)", x.beyond(9, 20), 2);
        C.due("beyond(9, 54)", x.beyond(9, 54), 3);
        C.due("beyond(240, 999999)", x.beyond(240, 999999), -2);
        C.due("beyond(2, 54)", x.beyond(2, 54), -2);
        C.due("tried laid", x.tried(3, 0), 9);
        C.due("tried fallen", x.tried(3, 1), 0);
        C.due("tried debt", x.tried(3, 2), 55);
        C.due("tried store", x.tried(3, 3), 41);
        C.due("tried left", x.tried(3, 10), 1);
        C.due("tried right", x.tried(3, 11), 0);
        C.due("tried right", x.tried(4, 11), 1);
        int[] after = state(x);
        for (int i = 0; i < before.length; i++) {
            C.due("nothing is changed " + i, after[i], before[i]);
        }
        C.due("days(4)", x.days(4), 14);
        C.due("right touches", x.sideIs(1, 5), 1);
        // both at once
        MiddleBridge y = C.bridge("4", "4", "w1(1=1)", "s+50");
        C.due("touches(240, 0)", y.touches(240, 0), 4);
        C.due("touches(240, 1)", y.touches(240, 1), 2);
        MiddleBridge z = C.bridge("4", "5", "w1(1=1)", "s+50");
        C.due("touches(240, 1)", z.touches(240, 1), 0);
        // the last one of the days
        MiddleBridge v = C.bridge("240,240", "241", "w1(e=0);w1(e=1);n1(1=1)", "s+9999");
        C.due("ahead(239)", v.ahead(239), 0);
        C.due("ahead(240)", v.ahead(240), 1);
        C.due("beyond(240, 239)", v.beyond(240, 239), 240);
        C.due("beyond(239, 239)", v.beyond(239, 239), -2);
        Checks.plan(v, 0, "240");
        C.due("touches(240, 0)", v.touches(240, 0), 240);
        C.due("touches(240, 1)", v.touches(240, 1), 0);
        C.due("touches(239, 0)", v.touches(239, 0), -2);
        C.due("days(240)", v.days(240), 480);
    }

    private static int[] state(MiddleBridge x) {
        return new int[] {x.count(0), x.count(1), x.count(2), x.count(3), x.count(7), x.sideIs(0, 2), x.sideIs(1, 2)};
    }

    private static void askingNow() {
        MiddleBridge x = C.bridge("1,1,1,1", "9", "w1(1=1)", "l+4;d+1");
        C.due("touches(1, 0)", x.touches(1, 0), 0);
        C.due("touches(1, 1)", x.touches(1, 1), 0);
        C.due("ahead(1)", x.ahead(1), 4);
        C.due("beyond(1, 0)", x.beyond(1, 0), 0);
        C.due("beyond(1, 1)", x.beyond(1, 1), -2);
        x.tilt(0);
        C.due("ahead(1), though one falls", x.ahead(1), 4);
        Checks.orders(x, "r+9");
        C.due("touches(1, 1)", x.touches(1, 1), 2);
        Checks.orders(x, "l-1");
        C.due("touches(1, 1)", x.touches(1, 1), 1);
    }

    private static void refused() {
        MiddleBridge x = C.bridge("5", "5", "w1(1=1)", "s+5");
        int[] wrong = {0, -1, 241, Integer.MIN_VALUE, Integer.MAX_VALUE};
        for (int n : wrong) {
            C.due("days", x.days(n), -1);
            C.due("tried", x.tried(n, 0), -1);
            C.due("touches", x.touches(n, 0), -1);
            C.due("ahead", x.ahead(n), -1);
            C.due("beyond", x.beyond(n, 0), -1);
        }
        int[] whats = {-1, 4, 9, 12, Integer.MIN_VALUE, Integer.MAX_VALUE};
        for (int what : whats) {
            C.due("tried(1, " + what + ")", x.tried(1, what), -1);
            C.due("touches(1, " + what + ")", x.touches(1, what), -1);
        }
        C.due("touches(1, 2)", x.touches(1, 2), -1);
        C.due("beyond(1, -1)", x.beyond(1, -1), -1);
        C.due("beyond(1, 1000000)", x.beyond(1, 1000000), -1);
        C.due("no day went by", x.count(0), 0);
        C.due("nothing is drawn", x.count(7), 1);
        C.due("nothing is laid", x.sideIs(0, 2), 0);
    }
}
