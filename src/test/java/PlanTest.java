/** Promises 5, 9, 10: plan, sideIs, archIs. */
public final class PlanTest {
    private static final Checks C = new Checks();

    public static void main(String[] args) {
        right();
        faults();
        refused();
        sides();
        C.end("PlanTest");
    }

    private static void is(String text, int... stones) {
        MiddleBridge x = new MiddleBridge();
        C.due("plan " + text, Checks.plan(x, 1, text), stones.length);
        int whole = 0;
        for (int i = 0; i < stones.length; i++) {
            C.due(text + ": arch " + (i + 1), x.archIs(1, i + 1, 0), stones[i]);
            whole += stones[i];
        }
        C.due(text + ": behind the last", x.archIs(1, stones.length + 1, 0), -1);
        C.due(text + ": arches", x.sideIs(1, 0), stones.length);
        C.due(text + ": stones", x.sideIs(1, 6), whole);
        C.due(text + ": the other side", x.sideIs(0, 0), 0);
    }

    private static void right() {
        is("1", 1);
        is("255", 255);
        is("001,05,7", 1, 5, 7);
        is("2,9,99", 2, 9, 99);
        is("2x12", 12, 12);
        is("(1)", 1);
        is("((1,2),3)", 1, 2, 3);
        is("2x(1,2x(3,4))", 1, 3, 4, 3, 4, 1, 3, 4, 3, 4);
        is("9x1,9x2,2x3", 1, 1, 1, 1, 1, 1, 1, 1, 1, 2, 2, 2, 2, 2, 2, 2, 2, 2, 3, 3);
        is("2x(2x(5x7))", 7, 7, 7, 7, 7, 7, 7, 7, 7, 7, 7, 7, 7, 7, 7, 7, 7, 7, 7, 7);
    }

    private static void fault(String text, int answer) {
        MiddleBridge x = new MiddleBridge();
        Checks.plan(x, 0, "3,4");
        C.due("plan " + text, Checks.plan(x, 0, text), answer);
        C.due(text + ": the plan stays", x.sideIs(0, 6), 7);
        C.due(text + ": its arches stay", x.sideIs(0, 0), 2);
        C.due(text + ": the tape is empty", x.count(6), 0);
    }

    private static void faults() {
        fault("a", -1000);
        fault(" 1", -1000);
        fault("1 ", -1001);
        fault("1,", -1002);
        fault("1,)", -1002);
        fault("(1", -1002);
        fault("(1,2", -1004);
        fault("()", -1001);
        fault("1)", -1001);
        fault("1(", -1001);
        fault("(1)(2)", -1003);
        fault("(1)2", -1003);
        fault("2x,", -1002);
        fault("2x", -1002);
        fault("1x5", -1001);
        fault("0x5", -3000);
        fault("12x5", -1002);
        fault("2x3x5", -1003);
        fault("x", -1000);
        fault("1234", -2003);
        fault("1,0000", -2005);
        fault("9999", -2003);
        fault("0", -3000);
        fault("000", -3000);
        fault("1,256", -3002);
        fault("2x256", -3002);
        fault("2x(1,999)", -3005);
        fault("0)", -3000);
        fault("(((1)))", -5002);
        fault("2x(2x(2x(1)))", -5008);
        fault("(1),((", -1006);
        fault("9x1,9x1,1,1,1", -6012);
        fault("9x1,9x1,3x1", -6008);
        fault("9x1,9x1,(1,1,1)", -6013);
        fault("3x(9x1)", -6000);
        fault("9x1,2x(9x1)", -6004);
        fault("9x1,2x(9x1", -1010);
        fault("9x(9x(9x1))", -6003);
        fault("9x1,9x1,1,1,1)", -6012);
        fault("9x1,9x1,1,1,0", -3012);
    }

    private static void refused() {
        MiddleBridge x = new MiddleBridge();
        Checks.feed(x, Checks.bytes("1,2"));
        int[][] calls = {{-1, 3}, {2, 3}, {0, 0}, {0, -1}, {0, 21}, {0, 81}, {0, Integer.MAX_VALUE},
            {Integer.MIN_VALUE, Integer.MIN_VALUE}};
        for (int[] call : calls) {
            C.due("plan(" + call[0] + ", " + call[1] + ")", x.plan(call[0], call[1]), -1);
        }
        C.due("the tape stays", x.count(6), 20);
        C.due("plan(0, 3)", x.plan(0, 3), 2);
        // the bytes behind the n are gone, too, and were not read
        C.due("the tape is empty", x.count(6), 0);
        Checks.feed(x, Checks.bytes("2x5,7"));
        C.due("plan(0, 1)", x.plan(0, 1), 1);
        C.due("its stones", x.archIs(0, 1, 0), 2);
        String eighty = Checks.times("005", 20, ",") + ",";
        C.due("80 bytes, the end can't stand there", Checks.plan(x, 1, eighty), -1080);
        C.due("79 bytes", Checks.plan(x, 1, eighty.substring(0, 79)), 20);
        C.due("81 bytes", Checks.plan(x, 0, eighty + ","), -1);
    }

    private static void sides() {
        MiddleBridge x = new MiddleBridge();
        Checks.plan(x, 0, "10,20,30");
        Checks.orders(x, "l+29;lb1:3;lb2:4;lb20:9;r+5");
        int[] due = {3, 1, 29, 1, 13, 0, 60};
        for (int what = 0; what < due.length; what++) {
            C.due("sideIs(0, " + what + ")", x.sideIs(0, what), due[what]);
        }
        C.due("without a plan none stands", x.sideIs(1, 1), 0);
        C.due("without a plan none is lacking", x.sideIs(1, 3), 0);
        C.due("without a plan it touches not", x.sideIs(1, 5), 0);
        C.due("laid right", x.sideIs(1, 2), 5);
        Checks.orders(x, "l+31");
        C.due("it touches", x.sideIs(0, 5), 1);
        C.due("none lacks", x.sideIs(0, 3), 0);
        C.due("weight", x.sideIs(0, 4), 10 + 40 + 90 + 3 + 8);
        C.due("arch 3 stands", x.archIs(0, 3, 1), 1);
        C.due("bench 2", x.archIs(0, 2, 2), 4);
        Checks.plan(x, 0, "59,2");
        C.due("stones stay by a new plan", x.sideIs(0, 2), 60);
        C.due("one stands then", x.sideIs(0, 1), 1);
        C.due("benches stay", x.archIs(0, 2, 2), 4);
        C.due("arch 2 stands not", x.archIs(0, 2, 1), 0);
        int[][] wrong = {{-1, 1, 0}, {2, 1, 0}, {0, 0, 0}, {0, 3, 0}, {0, -1, 0}, {0, 1, -1}, {0, 1, 3}, {1, 1, 0}};
        for (int[] w : wrong) {
            C.due("archIs" + java.util.Arrays.toString(w), x.archIs(w[0], w[1], w[2]), -1);
        }
        C.due("sideIs(-1, 0)", x.sideIs(-1, 0), -1);
        C.due("sideIs(2, 0)", x.sideIs(2, 0), -1);
        C.due("sideIs(0, -1)", x.sideIs(0, -1), -1);
        C.due("sideIs(0, 7)", x.sideIs(0, 7), -1);
    }
}
