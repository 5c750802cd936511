/** Promises 2 and 26 to 30 at their edges: what is KEPT and what is not, CHECK modulo 256, what is counted. */
public final class KeptEdgesTest {
    private static final Checks C = new Checks();

    public static void main(String[] args) {
        tiltAtItsEdges();
        seedAtItsEdges();
        neverKept();
        eachThatIsKept();
        whatIsNotKept();
        keptLast();
        undoneAgain();
        keptTellsTheDay();
        eachOfTheFour();
        modulo256();
        fallenModulo256();
        firstThatIsNotSo();
        checkWithoutATape();
        counts();
        C.end("KeptEdgesTest");
    }

    private static void tiltAtItsEdges() {
        MiddleBridge x = new MiddleBridge();
        C.due("at first", x.count(4), 99999);
        int[] numbers = {-1, 0, 1, 99998, 99999, 100000, Integer.MIN_VALUE, Integer.MAX_VALUE};
        int was = 99999;
        for (int most : numbers) {
            boolean good = most >= 0 && most <= 99999;
            C.due("tilt(" + most + ")", x.tilt(most), good);
            was = good ? most : was;
            C.due("count(4) behind tilt(" + most + ")", x.count(4), was);
        }
    }

    private static void seedAtItsEdges() {
        MiddleBridge x = new MiddleBridge();
        C.due("X at first", x.count(7), 1);
        int[] numbers = {-1, 0, 1, 65534, 65535, 65536, Integer.MIN_VALUE, Integer.MAX_VALUE};
        int was = 1;
        for (int seed : numbers) {
            boolean good = seed >= 0 && seed <= 65535;
            C.due("seed(" + seed + ")", x.seed(seed), good);
            was = good ? seed : was;
            C.due("count(7) behind seed(" + seed + ")", x.count(7), was);
        }
    }

    private static void neverKept() {
        MiddleBridge x = new MiddleBridge();
        C.due("undo()", x.undo(), false);
        Checks.orders(x, "s+5");
        x.days(3);
        C.due("undo()", x.undo(), false);
        C.due("the store stays", x.count(1), 5);
        C.due("the day stays", x.count(0), 3);
        C.due("keep()", x.keep(), 3);
        C.due("undo()", x.undo(), true);
        // what one bridge keeps is none of another one's
        C.due("undo() of another one", new MiddleBridge().undo(), false);
    }

    private static MiddleBridge kept() {
        MiddleBridge x = new MiddleBridge();
        Checks.plan(x, 0, "5,6,7");
        Checks.plan(x, 1, "8,9");
        Checks.law(x, "n3(1=1);w2(1=1);i4(1=1)");
        Checks.orders(x, "l+11;r+8;s+20;d+30;lb1:4;rb2:5");
        x.tilt(3);
        x.days(2);
        x.keep();
        return x;
    }

    /** "STONES laid, BENCHES, STORE, DEBT, THE DAY, FALLEN, X": each changed alone, and all at once. */
    private static void eachThatIsKept() {
        String was = Looks.of(kept());
        String[] changes = {"l-1", "l+1", "r-1", "r+1", "lb1:0", "lb2:9", "rb2:0", "rb1:1", "s+1", "s-1", "d+1", "d-1", "l-9999;r-9999",
            "s-9999;d-9999", "lb1:255;lb2:255;lb3:255;rb1:255;rb2:255;l+9999;r+9999"};
        for (String change : changes) {
            MiddleBridge x = kept();
            Checks.orders(x, change);
            C.due(change + " changes it", Looks.of(x).equals(was), false);
            C.due("undo()", x.undo(), true);
            C.due(change + " is undone", Looks.of(x).equals(was), true);
        }
        MiddleBridge x = kept();
        x.seed(777);
        x.undo();
        C.due("X is undone", Looks.of(x).equals(was), true);
        x.days(9);
        C.due("arches fell, days went by", x.count(3) > kept().count(3) && x.count(0) == 11, true);
        x.undo();
        C.due("FALLEN and THE DAY are undone", Looks.of(x).equals(was), true);
        everyBench();
    }

    /** At each of 20 ARCHES of both sides, also beyond the PLAN as it is. */
    private static void everyBench() {
        MiddleBridge x = new MiddleBridge();
        for (int arch = 1; arch <= 20; arch++) {
            Checks.orders(x, "lb" + arch + ":" + arch + ";rb" + arch + ":" + (100 + arch));
        }
        x.keep();
        for (int arch = 1; arch <= 20; arch++) {
            Checks.orders(x, "lb" + arch + ":0;rb" + arch + ":255");
        }
        x.undo();
        Checks.plan(x, 0, "9x1,9x1,2x1");
        Checks.plan(x, 1, "9x1,9x1,2x1");
        for (int arch = 1; arch <= 20; arch++) {
            C.due("the left BENCH " + arch, x.archIs(0, arch, 2), arch);
            C.due("the right BENCH " + arch, x.archIs(1, arch, 2), 100 + arch);
        }
    }

    /** PLANS, THE LAW, TILT and the tape are not KEPT. */
    private static void whatIsNotKept() {
        MiddleBridge x = kept();
        Checks.plan(x, 0, "3,3,3,3");
        Checks.plan(x, 1, "4");
        Checks.law(x, "n9(1=1)");
        x.tilt(88);
        Checks.feed(x, 1, 2, 3);
        x.undo();
        C.due("the left plan", x.sideIs(0, 0), 4);
        C.due("the right plan", x.sideIs(1, 6), 4);
        C.due("the law", x.count(5), 1);
        C.due("tilt", x.count(4), 88);
        C.due("the tape", x.count(6), 20);
        C.due("its bytes", x.rowed(3), 6);
        int debt = x.count(2);
        x.days(1);
        C.due("what the law says", x.count(2), debt + 9);
    }

    /** "As they were KEPT last". */
    private static void keptLast() {
        MiddleBridge x = kept();
        Checks.orders(x, "s+500");
        int store = x.count(1);
        x.keep();
        Checks.orders(x, "s+1");
        x.undo();
        C.due("the later one", x.count(1), store);
        x.undo();
        C.due("not the one before it", x.count(1), store);
    }

    private static void undoneAgain() {
        MiddleBridge x = kept();
        String was = Looks.of(x);
        for (int i = 0; i < 3; i++) {
            x.days(3);
            C.due("undo()", x.undo(), true);
            C.due("each time", Looks.of(x).equals(was), true);
        }
        // what goes on behind an undo is not what is kept
        Checks.orders(x, "lb1:99;s+9");
        x.undo();
        C.due("the bench", x.archIs(0, 1, 2), 4);
    }

    private static void keptTellsTheDay() {
        MiddleBridge x = new MiddleBridge();
        C.due("keep() at first", x.keep(), 0);
        x.days(1);
        C.due("keep() then", x.keep(), 1);
        x.days(240);
        C.due("keep() then", x.keep(), 241);
        x.days(1);
        x.undo();
        C.due("keep() behind undo()", x.keep(), 241);
    }

    private static void check(MiddleBridge x, int due, int... four) {
        Checks.feed(x, four);
        C.due("check() of " + four[0] + ", " + four[1] + ", " + four[2] + ", " + four[3], x.check(), due);
        C.due("the tape is empty", x.count(6), 0);
    }

    /** "ARCHES that stand left, right, FALLEN, STORE": each one more and one less. */
    private static void eachOfTheFour() {
        MiddleBridge x = new MiddleBridge();
        Checks.plan(x, 0, "9x1");
        Checks.plan(x, 1, "9x1");
        Checks.orders(x, "l+7;r+5;s+100");
        x.tilt(20);
        x.days(1);
        x.tilt(1);
        x.days(2);
        C.due("left", x.sideIs(0, 1), 5);
        C.due("right", x.sideIs(1, 1), 5);
        C.due("fallen", x.count(3), 2);
        int[] right = {5, 5, 2, 100};
        check(x, -1, right);
        for (int i = 0; i < 4; i++) {
            for (int wrong : new int[] {right[i] - 1, right[i] + 1, 255, 0, 128 + right[i]}) {
                int[] four = right.clone();
                four[i] = wrong;
                check(x, i, four);
            }
        }
    }

    /** "Each modulo 256". */
    private static void modulo256() {
        int[][] stores = {{0, 0}, {255, 255}, {256, 0}, {257, 1}, {511, 255}, {512, 0}, {9999, 15}};
        for (int[] s : stores) {
            MiddleBridge x = new MiddleBridge();
            Checks.orders(x, "s+" + s[0]);
            check(x, -1, 0, 0, 0, s[1]);
            check(x, 3, 0, 0, 0, s[1] + 1);
        }
        MiddleBridge x = new MiddleBridge();
        Checks.orders(x, Checks.times("s+9999", 10, ";") + ";s+9");
        check(x, -1, 0, 0, 0, 99999 % 256);
    }

    /** An ARCH of one STONE that is built each DAY, and falls each DAY. */
    private static void fallenModulo256() {
        MiddleBridge x = new MiddleBridge();
        Checks.plan(x, 0, "1");
        Checks.law(x, "w1(1=1)");
        Checks.orders(x, "s+512");
        x.tilt(0);
        x.days(240);
        C.due("fallen", x.count(3), 240);
        check(x, -1, 0, 0, 240, 272 - 256);
        x.days(15);
        check(x, -1, 0, 0, 255, 1);
        x.days(1);
        C.due("fallen", x.count(3), 256);
        check(x, -1, 0, 0, 0, 0);
        x.days(1);
        check(x, -1, 0, 0, 1, 255);
        C.due("fallen in days that are tried", x.tried(240, 1), 240);
        C.due("fallen", x.count(3), 257);
    }

    private static void firstThatIsNotSo() {
        MiddleBridge x = new MiddleBridge();
        for (int bits = 0; bits < 16; bits++) {
            check(x, bits == 0 ? -1 : Integer.numberOfTrailingZeros(bits), bits & 1, bits >> 1 & 1, bits >> 2 & 1, bits >> 3 & 1);
        }
    }

    /** "-2: it has not so many (the tape stays)"; only the first 4 bytes are read. */
    private static void checkWithoutATape() {
        MiddleBridge x = new MiddleBridge();
        C.due("check()", x.check(), -2);
        C.due("the tape", x.count(6), 0);
        Checks.feed(x, 0, 0, 0, 0, 9, 9, 9);
        C.due("check()", x.check(), -1);
        C.due("the tape is empty", x.count(6), 0);
        C.due("check()", x.check(), -2);
    }

    private static void counts() {
        MiddleBridge x = new MiddleBridge();
        int[] first = {0, 0, 0, 0, 99999, 0, 0, 1, 0};
        for (int what = 0; what < 9; what++) {
            C.due("count(" + what + ") at first", x.count(what), first[what]);
        }
        Checks.plan(x, 0, "2,3");
        Checks.plan(x, 1, "4");
        Checks.law(x, "n7(1=1);x(1=2)");
        Checks.orders(x, "l+5;r+4;s+11;lb2:1");
        x.tilt(5);
        C.due("count(8)", x.count(8), 6);
        x.days(1);
        Checks.feed(x, 0);
        int[] then = {1, 11, 7, 1, 5, 2, 20, 39022, 2};
        for (int what = 0; what < 9; what++) {
            C.due("count(" + what + ") then", x.count(what), then[what]);
        }
        for (int what : new int[] {-1, 9, 10, -2, 256, Integer.MIN_VALUE, Integer.MAX_VALUE}) {
            C.due("count(" + what + ")", x.count(what), -1);
        }
    }
}
