/** Promise 4: law, and what its rules say. */
public final class LawTest {
    private static final Checks C = new Checks();

    public static void main(String[] args) {
        read();
        faults();
        deep();
        refused();
        amounts();
        conditions();
        letters();
        rules();
        C.end("LawTest");
    }

    private static void is(String text, int answer) {
        MiddleBridge x = new MiddleBridge();
        Checks.law(x, "n7(1=1);n1(1=1)");
        C.due("law " + text, Checks.law(x, text), answer);
        C.due(text + ": rules", x.count(5), answer > 0 ? answer : 2);
        C.due(text + ": the tape is empty", x.count(6), 0);
        if (answer < 0) {
            x.days(1);
            C.due(text + ": the one before stays", x.count(2), 7);
        }
    }

    private static void read() {
        is("w1(1=1)", 1);
        is("x(1=1)", 1);
        is("c[1+2]*3(e<1)", 1);
        is("i99999(a>b&g=h|s<k&!t=r)", 1);
        is("n00000(!!(1=1))", 1);
        is("wr+e+a-b*g/h%s(k=t)", 1);
        is(Checks.times("x(1=1)", 16, ";"), 16);
        is("w1(((1=1)))", 1);
    }

    private static void faults() {
        is("z", -1000);
        is("W1(1=1)", -1000);
        is(";", -1000);
        is("w", -1001);
        is("w(1=1)", -1001);
        is("x1(1=1)", -1001);
        is("x", -1001);
        is("x(", -1002);
        is("x()", -1002);
        is("x(1)", -1003);
        is("x(1=)", -1004);
        is("x(1=1", -1005);
        is("x(1=1)x", -1006);
        is("x(1=1);", -1007);
        is("x(1=1));", -1006);
        is("x(1==1)", -1004);
        is("x(1=1=1)", -1005);
        is("x(1=1&)", -1006);
        is("x(1=1|)", -1006);
        is("x(&1=1)", -1002);
        is("x(!)", -1003);
        is("x((1=1)=1)", -1007);
        is("x((1)=1)", -1004);
        is("x([1=1)", -1004);
        is("x([1]=1)", 1);
        is("x([]=1)", -1003);
        is("w[1(1=1)", -1003);
        is("w1](1=1)", -1002);
        is("w1+(1=1)", -1003);
        is("w+1(1=1)", -1001);
        is("w-1(1=1)", -1001);
        is("w1 (1=1)", -1002);
        is("w1e(1=1)", -1002);
        is("we1(1=1)", -1002);
        is("wc(1=1)", -1001);
        is("w1!(1=1)", -1002);
        is("w123456(1=1)", -2006);
        is("x(000000=1)", -2007);
        String sixteen = Checks.times("x(1=1)", 16, ";") + ";";
        is(sixteen + "x", -4112);
        is(sixteen + "w(", -4112);
        is(sixteen + "c", -4112);
        is(sixteen + "i", -4112);
        is(sixteen + "n", -4112);
        is(sixteen + "z", -1112);
        is(sixteen, -1112);
    }

    private static void deep() {
        is("x((((((1=1))))))", 1);
        is("x(((((((1=1)))))))", -5007);
        is("x(!!!!!1=1)", 1);
        is("x(!!!!!!1=1)", -5007);
        is("x(!(!([1]=1)))", 1);
        is("x(!(!(![1]=1)))", -5007);
        is("x(!(!(!1=1)))", 1);
        is("x(!(!(!(1=1))))", -5007);
        is("x([[[[[1]]]]]=1)", 1);
        is("x([[[[[[1]]]]]]=1)", -5007);
        is("w[[[[[[1]]]]]](1=1)", 1);
        is("w[[[[[[[1]]]]]]](1=1)", -5007);
        is("w[[[[[[1]]]]]](((((((", -5020);
        is("x(!!!!!1=1&!!!!!1=1)", 1);
        is("x(!1=1&!1=1&!1=1&!1=1&!1=1&!1=1&!1=1)", 1);
        is("x(!!!!!1=[1])", -5009);
        is("w1+[[[[[[1-[", -5011);
        is("x((((((1=1)!", -1011);
        is("x((((((1!", -1008);
    }

    private static void refused() {
        MiddleBridge x = new MiddleBridge();
        Checks.law(x, "n7(1=1)");
        for (int i = 0; i < 13; i++) {
            Checks.feed(x, Checks.bytes("x(1=1);x(1=1);x(1=1)"));
        }
        C.due("law(0)", x.law(0), -1);
        C.due("law(-5)", x.law(-5), -1);
        C.due("law(241)", x.law(241), -1);
        C.due("the tape stays", x.count(6), 260);
        C.due("the law stays", x.count(5), 1);
        C.due("law(20)", x.law(20), 3);
        C.due("law(1) of no tape", x.law(1), -1);
        Checks.feed(x, Checks.bytes("x(1=1)"));
        C.due("law(21)", x.law(21), -1);
        C.due("the tape stays", x.count(6), 20);
        MiddleBridge y = new MiddleBridge();
        String sum = "n1" + Checks.times("", 115, "+1") + "(1=1)";
        C.due("240 bytes", sum.length() + 5, 240);
        C.due("law", Checks.law(y, sum), 1);
        y.days(1);
        C.due("debt", y.count(2), 115);
        C.due("240 bytes", Checks.law(y, sum.replace("(1=1)", "(1=1+1+1+1)").substring(0, 240)), -1240);
    }

    /** DEBT behind one DAY by a RULE of n. */
    private static void pence(String amount, int due) {
        MiddleBridge x = new MiddleBridge();
        C.due("law", Checks.law(x, "n" + amount + "(1=1)"), 1);
        x.days(1);
        C.due("n" + amount, x.count(2), due);
    }

    private static void amounts() {
        pence("2+3*4", 14);
        pence("[2+3]*4", 20);
        pence("9-3-2", 4);
        pence("100/7/2", 7);
        pence("100%7*5", 10);
        pence("7*100/7%13", 9);
        pence("3-4", 0);
        pence("9999", 9999);
        pence("10000", 9999);
        pence("99999", 9999);
        pence("1/0", 0);
        pence("5+1%0", 0);
        pence("5+1/[2-2]", 0);
        pence("0/5+6", 6);
        pence("[0-7]/2+10", 7);
        pence("[0-7]%4+10", 7);
        // 99999 * 99999 is 9999800001, which is 1409865409 in 32 bits
        pence("99999*99999/99999/10", 1409);
        // 65536 * 32768 is the least number, which stays so by -1
        pence("65536*32768/[0-1]", 0);
        pence("65536*32768/[0-1]-1-2147*10000", 9999);
        pence("5+65536*32768%[0-1]", 5);
    }

    private static void holds(String condition, boolean due) {
        MiddleBridge x = new MiddleBridge();
        C.due("law " + condition, Checks.law(x, "n5(" + condition + ")"), 1);
        x.days(1);
        C.due(condition, x.count(2), due ? 5 : 0);
    }

    private static void conditions() {
        holds("1<2", true);
        holds("2<2", false);
        holds("3>2", true);
        holds("2>2", false);
        holds("2=2", true);
        holds("2=3", false);
        holds("!2=3", true);
        holds("!!2=3", false);
        holds("1=2|1=1", true);
        holds("1=2|1=3|1=1", true);
        holds("1=1&1=2", false);
        holds("1=1&2=2&3=3", true);
        holds("1=1|1=2&1=3", true);
        holds("(1=1|1=2)&1=3", false);
        holds("!1=2&1=2", false);
        holds("!(1=2&1=2)", true);
        holds("1=2&1=1|1=1", true);
        holds("1/0=0", false);
        holds("!1/0=0", false);
        holds("1/0=0|1=1", false);
        holds("1=1|1/0=0", true);
        holds("1=2&1/0=0|1=1", true);
        holds("1=1&1%0=0|1=1", false);
        holds("!(1=1|1/0=0)|2=2", true);
        holds("0-1<0", true);
        holds("99999*99999>0&65536*32768<0", true);
    }

    private static void letters() {
        MiddleBridge x = new MiddleBridge();
        Checks.plan(x, 0, "30,40,50,60");
        Checks.plan(x, 1, "20,20,20,20,20");
        Checks.orders(x, "l+35;r+50;s+1000;d+250");
        // what each side lays tells what its letter is
        lays(x, "e", 0, 1);
        lays(x, "a", 1, 2);
        lays(x, "b", 2, 1);
        lays(x, "g*g", 9, 9);
        lays(x, "g+a", 4, 5);
        lays(x, "h-2", 33, 8);
        lays(x, "s-995", 5, 5);
        lays(x, "k", 2, 2);
        lays(x, "t+1", 1, 1);
        lays(x, "r", 2, 3);
        // in i and n there is no side
        Checks.law(x, "i1+e+a+b+g+h(e+a+b+g+h=0);n5+s%7+k(t=0)");
        C.due("store", x.tried(1, 3), 1001);
        C.due("debt", x.tried(1, 2), 250 + 5 + 1000 % 7 + 2);
        Checks.law(x, "n1(t=99)");
        C.due("debt by t", x.tried(99, 2), 250);
        C.due("debt by t", x.tried(100, 2), 251);
        C.due("debt by t", x.tried(200, 2), 252);
        x.days(150);
        C.due("debt by t", x.tried(49, 2), 251);
        C.due("debt by t", x.tried(50, 2), 252);
    }

    private static void lays(MiddleBridge x, String amount, int left, int right) {
        x.seed(seedFor(2, 3));
        Checks.law(x, "w" + amount + "(e=0)");
        C.due("left lays " + amount, x.tried(1, 0), left);
        Checks.law(x, "w" + amount + "(e=1)");
        C.due("right lays " + amount, x.tried(1, 0), right);
    }

    /** A seed by which the second and the third DRAW are these. */
    private static int seedFor(int second, int third) {
        for (int seed = 0; seed < 65536; seed++) {
            int a = (25173 * seed + 13849) % 65536;
            int b = (25173 * a + 13849) % 65536;
            int c = (25173 * b + 13849) % 65536;
            if (b % 10 == second && c % 10 == third) {
                return seed;
            }
        }
        return -1;
    }

    private static void rules() {
        MiddleBridge x = new MiddleBridge();
        Checks.plan(x, 0, "255");
        Checks.orders(x, "s+5000");
        Checks.law(x, "w9(t=1);w8(1/0=0);w7(1=1);w6(1=1);c2(t=0);c3(1=1)");
        C.due("the first that holds", x.tried(1, 0), 7);
        C.due("the first that holds", x.tried(2, 0), 16);
        C.due("what they cost", x.tried(2, 2), 14 + 27);
        Checks.law(x, "w500(1=1);c100(1=1)");
        C.due("99 at most", x.tried(1, 0), 99);
        C.due("99 pence at most", x.tried(1, 2), 9801);
        Checks.law(x, "i2000(1=1);n10000(1=1)");
        C.due("999 at most", x.tried(1, 3), 5999);
        C.due("9999 at most", x.tried(1, 2), 9999);
        Checks.law(x, "w5-9(1=1);w4(1=1)");
        C.due("0 at least", x.tried(1, 0), 0);
        Checks.law(x, "w4/0(1=1);w4(1=1)");
        C.due("refused amount is 0", x.tried(1, 0), 0);
        Checks.law(x, "w4(1=1);x(1=2);x(t=1);x(1/0=1)");
        C.due("any x will do", x.tried(3, 0), 8);
        Checks.law(x, "i5(1=1)");
        C.due("without w none", x.tried(5, 0), 0);
    }
}
