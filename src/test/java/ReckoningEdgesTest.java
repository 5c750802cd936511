/** What THE LAW says at its edges: 32 bits, what is divided by 0, what is asked, the letters, the bounds of w, c, i, n. */
public final class ReckoningEdgesTest {
    private static final Checks C = new Checks();

    public static void main(String[] args) {
        bothEndsOf32Bits();
        divisions();
        fromTheLeftOn();
        refusedAmount();
        refusedCondition();
        asMuchAsMatters();
        partsAndTests();
        boundsOfAmounts();
        firstThatHolds();
        refusesToWork();
        lettersWithoutASide();
        storeDebtAndDay();
        draws();
        lettersOfASide();
        emptyLaw();
        C.end("ReckoningEdgesTest");
    }

    /** DEBT behind one DAY of a new object by a LAW. */
    private static int debtBy(String law) {
        MiddleBridge x = new MiddleBridge();
        C.due("law " + law, Checks.law(x, law) > 0, true);
        x.days(1);
        return x.count(2);
    }

    private static void holds(String condition) {
        C.due(condition + " holds", debtBy("n5(" + condition + ")"), 5);
        C.due("!(" + condition + ") does not hold", debtBy("n5(!(" + condition + "))"), 0);
    }

    private static void holdsNot(String condition) {
        C.due(condition + " does not hold", debtBy("n5(" + condition + ")"), 0);
        C.due("!(" + condition + ") holds", debtBy("n5(!(" + condition + "))"), 5);
    }

    /** Neither it nor its contrary holds. */
    private static void refused(String condition) {
        C.due(condition + " is refused", debtBy("n5(" + condition + ");n6(1=1)"), 6);
        C.due("!(" + condition + ") is refused", debtBy("n5(!(" + condition + "));n6(1=1)"), 6);
    }

    private static void pence(String amount, int due) {
        C.due("n" + amount, debtBy("n" + amount + "(1=1)"), due);
    }

    /** "All is reckoned with 32 bits, as the machine does": 2147483647 and one more, the least and one less. */
    private static void bothEndsOf32Bits() {
        String greatest = "65536*32767+65535";
        String least = "65536*32768";
        holds(greatest + ">0");
        holds(greatest + "+1<0");
        holds(greatest + "+1=" + least);
        holds(greatest + "-[0-1]=" + least);
        holds(least + "<0");
        holds(least + "-1>0");
        holds(least + "-1=" + greatest);
        holds("0-[" + least + "]=" + least);
        holds("[" + least + "]*[0-1]=" + least);
        holds("[" + least + "]/[0-1]=" + least);
        holds("[" + least + "]%[0-1]=0");
        holds("[" + least + "]/1=" + least);
        holds("[" + greatest + "]*2=0-2");
        holds("[" + least + "]*2=0");
        holds("65536*65536=0");
        holds("65536*65537=65536");
        holds("46340*46340>0");
        holds("46341*46341<0");
        holds("99999*99999=14098*10000*10+65409");
        // beyond 32 bits the bound of n is asked of what is left
        pence("65536*65536+7", 7);
        pence(greatest, 9999);
        pence(greatest + "+1", 0);
        pence(least, 0);
        pence(least + "-1", 9999);
        pence("65536*16384*4+12", 12);
        holds("[" + least + "]<[" + greatest + "]");
        holdsNot("[" + greatest + "]<[" + least + "]");
    }

    /** As the machine divides: towards 0, what is left has the sign of what was divided. */
    private static void divisions() {
        holds("7/2=3");
        holds("[0-7]/2=0-3");
        holds("7/[0-2]=0-3");
        holds("[0-7]/[0-2]=3");
        holds("7%2=1");
        holds("[0-7]%2=0-1");
        holds("7%[0-2]=1");
        holds("[0-7]%[0-2]=0-1");
        holds("0/7=0");
        holds("0%7=0");
        holds("6/7=0");
        holds("6%7=6");
        holds("7/7=1");
        holds("7%7=0");
    }

    /** "E: TERMS with + or - between two; a TERM: FACTORS with one of * / % between two; from the left on". */
    private static void fromTheLeftOn() {
        pence("9-3-2", 4);
        pence("9-3+2", 8);
        pence("9-[3+2]", 4);
        pence("100/10*10", 100);
        pence("100*10/10", 100);
        pence("105/10*10", 100);
        pence("105/[10*10]", 1);
        pence("100/7/2", 7);
        pence("7%4*2", 6);
        pence("7*2%4", 2);
        pence("7%[4*2]", 7);
        pence("2+3*4-1", 13);
        pence("[2+3]*[4-1]", 15);
        pence("20-2*3*2-1", 7);
        pence("1+8/2%3", 2);
    }

    /** "What is divided by 0 is REFUSED: ... the E of it is 0", of the first RULE that holds all the same. */
    private static void refusedAmount() {
        for (String amount : new String[] {"1/0", "1%0", "0/0", "0%0", "9+1/0", "1/0+9", "0*[1/0]+9", "9/[3-3]", "9%[3-3]",
            "9/e", "9%[e*5]", "[[[9/0]]]+7", "9/[1/2]", "65536*32768/0", "5-1/[65536*65536]"}) {
            pence(amount, 0);
            C.due("the next rule is not asked: " + amount, debtBy("n" + amount + "(1=1);n7(1=1)"), 0);
        }
        C.due("only that E is 0", debtBy("i1/0(1=1);n7(1=1)"), 7);
        C.due("one that does not hold", debtBy("n1/0(1=2);n7(1=1)"), 7);
    }

    /** "Then the whole C of the RULE does not hold": also not by a ! or by another PART. */
    private static void refusedCondition() {
        for (String test : new String[] {"1/0=1", "1%0=0", "0/0=0", "1=1/0", "1<2%[1-1]", "5>1/0", "1/e=1"}) {
            refused(test);
            refused("!" + test);
            refused("!!" + test);
            refused("(" + test + ")");
            refused(test + "|1=1");
            refused("1=2|" + test + "|1=1");
            refused("1=1&" + test);
            refused(test + "&1=2");
            refused("(1=1&(" + test + "|1=1))|1=1");
            refused("!(1=2&1=1)&!(" + test + ")|1=1");
        }
    }

    /** "Of a C as much is asked, from the left, as matters". */
    private static void asMuchAsMatters() {
        holds("1=1|1/0=1");
        holds("1=2|1=1|1/0=1");
        holdsNot("1=2&1/0=1");
        holdsNot("1=1&1=2&1/0=1");
        holds("1=2&1/0=1|1=1");
        holdsNot("1=2&1/0=1|1=3&1%0=0");
        holds("(1=1|1/0=1)&2=2");
        holdsNot("(1=2&1/0=1)|3=4");
        holds("!(1=2&1/0=1)");
        holds("!(1=1|1/0=1)|2=2");
        holdsNot("1=1&1=2|1=3&1/0=1");
        holds("1=1&(1=2|3=3)|1/0=1");
        refused("1=2|1/0=1");
        refused("1=1&1/0=1");
        refused("(1=2|1/0=1)&1=2");
        refused("!(1=2|1=3)&1/0=1");
        // one E of a TEST does not do without the other one
        refused("1<0*[1/0]");
    }

    /** "PARTS with a | between two, one of which must hold; a PART: TESTS with an & between two, all of which must". */
    private static void partsAndTests() {
        String[] signs = {"1=2", "1=1"};
        for (int bits = 0; bits < 16; bits++) {
            boolean[] v = {(bits & 1) != 0, (bits & 2) != 0, (bits & 4) != 0, (bits & 8) != 0};
            String a = signs[bits & 1];
            String b = signs[bits >> 1 & 1];
            String c = signs[bits >> 2 & 1];
            String d = signs[bits >> 3 & 1];
            one(a + "&" + b + "|" + c + "&" + d, v[0] && v[1] || v[2] && v[3]);
            one(a + "|" + b + "&" + c + "|" + d, v[0] || v[1] && v[2] || v[3]);
            one(a + "&(" + b + "|" + c + ")&" + d, v[0] && (v[1] || v[2]) && v[3]);
            one("!" + a + "&" + b + "|!" + c + "&!" + d, !v[0] && v[1] || !v[2] && !v[3]);
            one("!(" + a + "&" + b + ")&!!" + c + "|" + d, !(v[0] && v[1]) && v[2] || v[3]);
            one("!(" + a + "|" + b + ")&" + c + "|!(" + c + "&" + d + ")", !(v[0] || v[1]) && v[2] || !(v[2] && v[3]));
        }
        int[] numbers = {0, 1, 2, 99999};
        for (int p : numbers) {
            for (int q : numbers) {
                one(p + "<" + q, p < q);
                one(p + ">" + q, p > q);
                one(p + "=" + q, p == q);
            }
        }
    }

    private static void one(String condition, boolean due) {
        if (due) {
            holds(condition);
        } else {
            holdsNot(condition);
        }
    }

    /** A side that has all it needs to lay w STONES, left alone. */
    private static MiddleBridge yard(String law) {
        MiddleBridge x = new MiddleBridge();
        Checks.plan(x, 0, "255,255");
        Checks.orders(x, "s+5000");
        C.due("law " + law, Checks.law(x, law) > 0, true);
        return x;
    }

    /** w "(0 to 99)", c "(0 to 99)", i "(0 to 999)", n "(0 to 9999)"; "beyond its bounds the bound". */
    private static void boundsOfAmounts() {
        String[] amounts = {"0", "1", "98", "99", "100", "998", "999", "1000", "9998", "9999", "10000", "99999", "0-1", "0-99999",
            "65536*32768", "65536*32768-1"};
        int[] due = {0, 1, 98, 99, 100, 998, 999, 1000, 9998, 9999, 10000, 99999, 0, 0, 0, 2147483647};
        for (int i = 0; i < amounts.length; i++) {
            C.due("w" + amounts[i], yard("w" + amounts[i] + "(1=1)").tried(1, 0), Math.min(99, due[i]));
            C.due("c" + amounts[i], yard("w1(1=1);c" + amounts[i] + "(1=1)").tried(1, 2), Math.min(99, due[i]));
            C.due("i" + amounts[i], yard("i" + amounts[i] + "(1=1)").tried(1, 3), 5000 + Math.min(999, due[i]));
            C.due("n" + amounts[i], yard("n" + amounts[i] + "(1=1)").tried(1, 2), Math.min(9999, due[i]));
        }
        C.due("the most of all", yard("w100(1=1);c100(1=1);n10000(1=1)").tried(1, 2), 99 * 99 + 9999);
    }

    /** "Of the first RULE of w, c, i, n whose C holds the E (none: 0)". */
    private static void firstThatHolds() {
        String two = "(1=2);";
        String one = "(1=1);";
        MiddleBridge x = yard("w9" + two + "c9" + two + "i9" + two + "n9" + two + "n4" + one + "i3" + one + "c2" + one + "w1" + one
            + "w8" + one + "c8" + one + "i8" + one + "n8(1=1)");
        C.due("w", x.tried(1, 0), 1);
        C.due("c and n", x.tried(1, 2), 2 + 4);
        C.due("i", x.tried(1, 3), 5000 + 3 - 1);
        MiddleBridge none = yard("w9" + two + "c9" + two + "i9" + two + "n9(1=2)");
        C.due("no w", none.tried(1, 0), 0);
        C.due("no c, no n", none.tried(1, 2), 0);
        C.due("no i", none.tried(1, 3), 5000);
        C.due("w without c costs nothing", yard("w9(1=1)").tried(1, 2), 0);
        C.due("c without w", yard("c9(1=1)").tried(1, 2), 0);
        // an amount of 0 is one, too
        C.due("w0", yard("w0(1=1);w9(1=1)").tried(1, 0), 0);
    }

    /** "x a side refuses to work (any will do; without an x in THE LAW none does)". */
    private static void refusesToWork() {
        C.due("without an x", yard("w7(1=1)").tried(1, 0), 7);
        C.due("an x that does not hold", yard("w7(1=1);x(1=2)").tried(1, 0), 0 + 7);
        C.due("an x that holds", yard("w7(1=1);x(1=1)").tried(1, 0), 0);
        C.due("the last of three", yard("x(1=2);w7(1=1);x(1=3);x(1=1)").tried(1, 0), 0);
        C.due("the first of three", yard("x(1=1);w7(1=1);x(1=3);x(1=2)").tried(1, 0), 0);
        C.due("one that is refused does not hold", yard("w7(1=1);x(1/0=1)").tried(1, 0), 7);
        C.due("another one does", yard("w7(1=1);x(1/0=1);x(1=1)").tried(1, 0), 0);
        MiddleBridge x = yard("w7(1=1);x(e=0)");
        Checks.plan(x, 1, "255");
        C.due("the right one works", x.tried(1, 0), 7);
        x.days(1);
        C.due("the right one has worked", x.sideIs(1, 2), 7);
        C.due("x does not stop i and n", yard("i5(1=1);n6(1=1);x(1=1)").tried(1, 3), 5005);
    }

    /** "(e, a, b, g, h in i, n 0)". */
    private static void lettersWithoutASide() {
        MiddleBridge x = new MiddleBridge();
        Checks.plan(x, 0, "5,6,7");
        Checks.plan(x, 1, "5,6");
        Checks.orders(x, "l+6;r+5;s+100");
        for (char letter : "eabgh".toCharArray()) {
            Checks.law(x, "n" + letter + "+3(1=1);i" + letter + "+4(1=1);w1(1=1)");
            C.due(letter + " in n", x.tried(1, 2), 3);
            C.due(letter + " in n on the second day", x.tried(2, 2), 6);
            C.due(letter + " in i", x.tried(1, 3), 104 - 2);
            Checks.law(x, "n3(" + letter + "=0);i4(" + letter + "=0)");
            C.due(letter + " in the C of n", x.tried(1, 2), 3);
            C.due(letter + " in the C of i", x.tried(1, 3), 104);
        }
    }

    private static void storeDebtAndDay() {
        MiddleBridge x = new MiddleBridge();
        Checks.orders(x, Checks.times("s+9999", 10, ";") + ";s+9");
        yes(x, "s=99999");
        Checks.orders(x, "s-1");
        yes(x, "s=99998");
        // "k DEBT through 100"
        int[][] debts = {{0, 0}, {1, 0}, {99, 0}, {100, 1}, {199, 1}, {200, 2}, {9999, 99}};
        for (int[] d : debts) {
            MiddleBridge y = new MiddleBridge();
            Checks.orders(y, "d+" + d[0]);
            yes(y, "k=" + d[1]);
        }
        MiddleBridge y = new MiddleBridge();
        for (int i = 0; i < 7; i++) {
            Checks.orders(y, Checks.times("d+9999", 15, ";"));
        }
        C.due("debt", y.count(2), 999999);
        Checks.law(y, "i7(k=9999)");
        C.due("k of the most debt", y.tried(1, 3), 7);
        // "t THE DAY modulo 100"
        MiddleBridge z = new MiddleBridge();
        int[] days = {0, 1, 99, 100, 101, 199, 200, 240};
        for (int i = 0; i < days.length; i++) {
            if (i > 0) {
                z.days(days[i] - days[i - 1]);
            }
            C.due("the day", z.count(0), days[i]);
            yes(z, "t=" + days[i] % 100);
        }
        Checks.law(z, "x(1=1)");
        for (int i = 0; i < 40; i++) {
            z.days(240);
        }
        z.days(9998 - z.count(0));
        yes(z, "t=98");
    }

    /** This C holds on the next DAY. */
    private static void yes(MiddleBridge x, String condition) {
        Checks.law(x, "n7(" + condition + ")");
        C.due(condition, x.tried(1, 2), Math.min(999999, x.count(2) + 7));
    }

    /** "X = (25173 X + 13849) modulo 65536 (X is THE SEED at first, 1): X modulo 10". */
    private static void draws() {
        int[][] rows = {{0, 9, 2, 3, 0, 5, 6}, {1, 2, 7, 6, 5, 2, 9}, {65535, 2, 7, 0, 1, 8, 7}, {32768, 7, 4, 1, 8, 3, 8}};
        for (int[] row : rows) {
            for (int r = 0; r < 10; r++) {
                MiddleBridge x = new MiddleBridge();
                Checks.plan(x, 0, "255");
                Checks.plan(x, 1, "255");
                Checks.orders(x, "s+500");
                x.seed(row[0]);
                Checks.law(x, "n1(r=" + r + ");w1(e=0&r=" + r + ");w2(e=1&r=" + r + ")");
                C.due("the first draw", x.tried(1, 2), row[1] == r ? 1 : 0);
                C.due("the second and the third draw", x.tried(1, 0), (row[2] == r ? 1 : 0) + (row[3] == r ? 2 : 0));
                C.due("the fourth draw", x.tried(2, 2), (row[1] == r ? 1 : 0) + (row[4] == r ? 1 : 0));
            }
        }
        int[] behind = {61087, 20196, 45005, 3882, 21259, 65216};
        MiddleBridge x = new MiddleBridge();
        C.due("X at first", x.count(7), 1);
        x.days(1);
        C.due("X behind three draws", x.count(7), behind[1]);
        x.days(1);
        C.due("X behind six draws", x.count(7), behind[4]);
        C.due("none is negative or beyond", x.seed(65535), true);
        x.days(1);
        C.due("X from 65535", x.count(7), 42250);
        x.seed(0);
        x.days(1);
        C.due("X from 0", x.count(7), 31223);
    }

    /** e, a, b, g, h of each side, at their least and their most. */
    private static void lettersOfASide() {
        MiddleBridge x = new MiddleBridge();
        Checks.plan(x, 0, "9x9,9x9,2x255");
        Checks.plan(x, 1, "9x9,9x9,2x255");
        Checks.orders(x, "s+9999");
        asked(x, 0, "e=0&a=0&b=0&g=20&h=9");
        asked(x, 1, "e=1&a=0&b=0&g=20&h=9");
        Checks.orders(x, "l+162;r+416");
        asked(x, 0, "e=0&a=18&b=18&g=2&h=255");
        asked(x, 1, "e=1&a=18&b=18&g=2&h=1");
        Checks.orders(x, "r+1;l+509");
        asked(x, 0, "e=0&a=19&b=19&g=1&h=1&s=9999");
        asked(x, 1, "e=1&a=19&b=19&g=1&h=255");
        Checks.orders(x, "r-9999;r+7");
        asked(x, 1, "a=0&b=19&g=20&h=2");
        Checks.orders(x, "l-9999;l+7");
        asked(x, 0, "e=0&a=0&b=0&g=20&h=2");
        // the right one sees what the left one has laid, and what was paid for it
        Checks.orders(x, "d+98");
        Checks.law(x, "w2(e=0);c1(1=1);w5(e=1&b=1&s=9997&k=1)");
        C.due("the right one sees", x.tried(1, 0), 7);
        Checks.law(x, "w2(e=1);w5(e=0&b=0)");
        C.due("the left one sees not what the right one will lay", x.tried(1, 0), 7);
        C.due("but it sees what it has laid", x.tried(2, 0), 7 + 2);
    }

    private static void asked(MiddleBridge x, int side, String condition) {
        Checks.law(x, "x(e=" + (1 - side) + ");w1(" + condition + ")");
        C.due("side " + side + ": " + condition, x.tried(1, 0), 1);
        Checks.law(x, "x(e=" + (1 - side) + ");w1(1=1);c1(" + condition + ")");
        C.due("side " + side + ", in c: " + condition, x.tried(1, 2), x.count(2) + 1);
        Checks.law(x, "w1(1=1);x(" + condition + ");x(e=" + (1 - side) + ")");
        C.due("side " + side + ", in x: " + condition, x.tried(1, 0), 0);
    }

    /** "None at first": nothing is laid, nothing comes, nothing is paid; yet THE DAYS go by and DRAWS are made. */
    private static void emptyLaw() {
        MiddleBridge x = new MiddleBridge();
        Checks.plan(x, 0, "5");
        Checks.orders(x, "s+9;d+8");
        C.due("rules", x.count(5), 0);
        C.due("days(2)", x.days(2), 0);
        C.due("the day", x.count(0), 2);
        C.due("store", x.count(1), 9);
        C.due("debt", x.count(2), 8);
        C.due("X", x.count(7), 21259);
    }
}
