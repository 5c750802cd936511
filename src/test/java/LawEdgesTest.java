/** THE LAW's text at its edges: each FAULT with its place, the end too, and how much may be open. */
public final class LawEdgesTest {
    private static final Checks C = new Checks();

    public static void main(String[] args) {
        digits();
        rules();
        openInCondition();
        openInAmount();
        notOpenAtOnce();
        signs();
        ends();
        onlyCondition();
        firstFromTheLeft();
        theOneBeforeStays();
        C.end("LawEdgesTest");
    }

    private static void is(String text, int due) {
        C.due("law " + text, Checks.law(new MiddleBridge(), text), due);
    }

    /** "A number of one to five digits"; "2 a sixth digit, at it". */
    private static void digits() {
        is("w1(1=1)", 1);
        is("w99999(1=1)", 1);
        is("w00000(1=1)", 1);
        is("w999999(1=1)", -2006);
        is("w000000(1=1)", -2006);
        is("w1+123456(1=1)", -2008);
        is("w[123456](1=1)", -2007);
        is("x(12345=1)", 1);
        is("x(123456=1)", -2007);
        is("x(1=123456)", -2009);
        is("x(1=1&000000=1)", -2011);
        is("w1234567(1=1)", -2006);
    }

    /** "RULES (16 at most)"; "4 a 17th RULE, at its letter (if that can stand there)". */
    private static void rules() {
        String fifteen = Checks.times("x(1=1)", 15, ";");
        String sixteen = fifteen + ";x(1=1)";
        is("x(1=1)", 1);
        is(fifteen, 15);
        is(sixteen, 16);
        for (char letter : "wcinx".toCharArray()) {
            is(sixteen + ";" + letter, -4112);
            is(sixteen + ";" + letter + "1(1=1)", -4112);
            is(sixteen + ";" + letter + "(1=1)", -4112);
            is(sixteen + ";" + letter + "?", -4112);
        }
        for (char other : "WX1([!;eabghsktr ".toCharArray()) {
            is(sixteen + ";" + other, -1112);
        }
        is(sixteen + ";", -1112);
        is(sixteen + "x", -1111);
        MiddleBridge x = new MiddleBridge();
        C.due("16 rules", Checks.law(x, Checks.times("n1(1=2)", 15, ";") + ";n7(1=1)"), 16);
        C.due("count(5)", x.count(5), 16);
        x.days(1);
        C.due("the 16th rule is asked", x.count(2), 7);
    }

    /** "5 a seventh of ( [ ! that are open in one another, at it (the ( of the RULE counts)": six of each may be. */
    private static void openInCondition() {
        is("x(((((((1=1", -5007);
        is("x((((((1=1))))))", 1);
        is("x(!!!!!1=1)", 1);
        is("x(!!!!!!1=1)", -5007);
        is("x([[[[[1]]]]]=1)", 1);
        is("x([[[[[[1", -5007);
        is("x(1=[[[[[1]]]]])", 1);
        is("x(1=[[[[[[1", -5009);
        is("x(1+[[[[[1*[", -5011);
        is("x((!([1]=[[1]])))", 1);
        is("x((!([1]=[[[1", -5011);
        is("x(!(!(!1=1)))", 1);
        is("x(!(!(!(1=1))))", -5007);
        is("x(!(!(![1]=1)))", -5007);
        is("x((((((!1=1", -5007);
        is("x((((([1]=1)))))", 1);
        is("x((((([[1]]=1)))))", -5007);
        // a seventh that can't stand there is FAULT 1
        is("x((((((1(", -1008);
        is("x((((((1[", -1008);
        is("x((((((1!", -1008);
        is("x((((((1=1(", -1010);
        is("x(!!!!!1=1!", -1010);
        is("x([[[[[1(", -1008);
        is("x([[[[[(", -1007);
        is("x([[[[[!", -1007);
    }

    /** "The E of a RULE stands ahead of it": six [ may be open in it, and six again in its C. */
    private static void openInAmount() {
        is("w[[[[[[1]]]]]](1=1)", 1);
        is("w[[[[[[[1", -5007);
        is("w1+[2*[3-[4/[5%[e]]]]]+[[[[[[r]]]]]](((((([[1=1", -5042);
        is("w[[[[[[1]]]]]]((((((1=1))))))", 1);
        is("w[[[[[[1]]]]]](((((((", -5020);
        is("c1-[[[[[[1+[", -5011);
        is("w[[[[[[1[", -1008);
        is("w(((((((", -1001);
        is("w[!", -1002);
        is("w[(", -1002);
    }

    /** "That are open in one another ... a ! is open till its TEST ends": those one behind the other are not. */
    private static void notOpenAtOnce() {
        is("x(!1=1&!1=1&!1=1&!1=1&!1=1&!1=1&!1=1)", 1);
        is("x(!!!!!1=1&!!!!!1=1|!!!!!1=1)", 1);
        is("x(!!!!(1=1)&(((((1=1))))))", 1);
        is("x([1]=[2]&[3]=[4]&[5]=[6]&[7]=[8])", 1);
        is("x([1]+[2]*[3]=[[[[[4]]]]]+[[[[[5]]]]])", 1);
        is("x((1=1)&(1=1)&(1=1)&(1=1)&(1=1)&(1=1)&(1=1))", 1);
        is("w[1]+[2]+[3]+[4]+[5]+[6]+[7](1=1)", 1);
        is(Checks.times("x(!!!!!1=1)", 7, ";"), 7);
        // a ! before a ( is open as long as that is
        is("x(!(1=1&!(1=1&!(1=1", -5015);
        is("x(!(1=1)&!(1=1)&!(1=1)&!!!!!1=1)", 1);
        // the TEST of a ! ends with its second E
        is("x(!!!!!1=[1", -5009);
        is("x(!!!!!1=1&[1]=1)", 1);
    }

    /** "1 what can't stand there": each of all 256 signs at each kind of place. */
    private static void signs() {
        for (int sign = 0; sign < 256; sign++) {
            char c = (char) sign;
            boolean digit = c >= '0' && c <= '9';
            boolean factor = digit || "eabghsktr[".indexOf(c) >= 0;
            boolean test = factor || c == '!' || c == '(';
            boolean goesOn = "+-*/%".indexOf(c) >= 0;
            boolean compares = "<>=".indexOf(c) >= 0;
            boolean joins = c == '&' || c == '|';
            only("", c, "wcinx".indexOf(c) >= 0);
            only("w", c, factor);
            only("c", c, factor);
            only("i", c, factor);
            only("n", c, factor);
            only("x", c, c == '(');
            only("w1", c, digit || goesOn || c == '(');
            only("w12345", c, goesOn || c == '(');
            only("we", c, goesOn || c == '(');
            only("w1+", c, factor);
            only("w1*", c, factor);
            only("w1+2", c, digit || goesOn || c == '(');
            only("w1-2", c, digit || goesOn || c == '(');
            only("w1*2", c, digit || goesOn || c == '(');
            only("w1/e", c, goesOn || c == '(');
            only("w1%2*e-a", c, goesOn || c == '(');
            only("x(1<2+3", c, digit || goesOn || joins || c == ')');
            only("x(1>2%e", c, goesOn || joins || c == ')');
            only("w[", c, factor);
            only("w[e", c, goesOn || c == ']');
            only("w[e]", c, goesOn || c == '(');
            only("x(", c, test);
            only("x(!", c, test);
            only("x((", c, test);
            only("x(e", c, goesOn || compares);
            only("x(1", c, digit || goesOn || compares);
            only("x([e]", c, goesOn || compares);
            only("x(e=", c, factor);
            only("x(e=e", c, goesOn || joins || c == ')');
            only("x(e=e&", c, test);
            only("x(e=e|", c, test);
            only("x((e=e", c, goesOn || joins || c == ')');
            only("x((e=e)", c, joins || c == ')');
            only("x(!e=e", c, goesOn || joins || c == ')');
            only("x(e=e)", c, c == ';');
            only("x(e=e);", c, "wcinx".indexOf(c) >= 0);
        }
    }

    /** A sign behind a text that it can't stand behind: FAULT 1 at it (a sixth digit: FAULT 2). */
    private static void only(String ahead, char sign, boolean stands) {
        int got = Checks.law(new MiddleBridge(), ahead + sign);
        boolean sixth = ahead.equals("w12345") && sign >= '0' && sign <= '9';
        C.due("law " + ahead + " and the sign " + (int) sign, got == -1000 - ahead.length(), !stands && !sixth);
        C.due("law " + ahead + " and the sign " + (int) sign, got == -2000 - ahead.length(), sixth);
    }

    /** "(the end, too)": the place n. */
    private static void ends() {
        String whole = "w1+e*[2-a](!(1<2|r=3)&[t]>4)";
        for (int n = 1; n < whole.length(); n++) {
            is(whole.substring(0, n), -1000 - n);
        }
        is(whole, 1);
        is(whole + ";", -1000 - whole.length() - 1);
        MiddleBridge x = new MiddleBridge();
        Checks.feed(x, Checks.bytes(whole));
        C.due("the end is where n tells", x.law(whole.length() - 1), -1000 - whole.length() + 1);
        String longest = "n1" + "+1".repeat(116) + "(1=1);";
        C.due("240 bytes", longest.length(), 240);
        is(longest, -1240);
    }

    /** "x only (C)"; the other four an E ahead of it. */
    private static void onlyCondition() {
        is("x(1=1)", 1);
        is("x1(1=1)", -1001);
        is("xe(1=1)", -1001);
        for (char letter : "wcin".toCharArray()) {
            is(letter + "(1=1)", -1001);
            is(letter + "1(1=1)", 1);
            is(letter + "1", -1002);
            is(letter + "1()", -1003);
        }
    }

    private static void firstFromTheLeft() {
        is("?(((((((", -1000);
        is("w123456?", -2006);
        is("w?123456", -1001);
        is("x(((((((123456", -5007);
        is("x(123456(((((((", -2007);
        is(Checks.times("x(1=1)", 16, ";") + ";x123456", -4112);
        is(Checks.times("x(1=1)", 15, ";") + ";x(123456=1);x", -2112);
    }

    /** "(The one before stays)": by each kind of FAULT. */
    private static void theOneBeforeStays() {
        MiddleBridge x = new MiddleBridge();
        Checks.law(x, "n7(1=1);i3(1=1)");
        String[] wrong = {"?", "n", "n1(1=1);", "n123456(1=1)", "x(((((((1=1)))))))", Checks.times("n9(1=1)", 17, ";"),
            "n9(1=1);i9(1=1);x(1=1)?"};
        for (int i = 0; i < wrong.length; i++) {
            C.due("law " + wrong[i], Checks.law(x, wrong[i]) <= -1000, true);
            C.due("two rules stay", x.count(5), 2);
            x.days(1);
            C.due("n of the one before", x.count(2), 7 * (i + 1));
            C.due("i of the one before", x.count(1), 3 * (i + 1));
        }
        inPlaceOfTheOneBefore(x, 7 * wrong.length, 3 * wrong.length);
    }

    private static void inPlaceOfTheOneBefore(MiddleBridge x, int debt, int store) {
        // "in place of the one before": none of the old RULES is left
        C.due("law", Checks.law(x, "i1(1=1)"), 1);
        C.due("count(5)", x.count(5), 1);
        x.days(1);
        C.due("n is gone", x.count(2), debt);
        C.due("i is the new one", x.count(1), store + 1);
        // longer and shorter ones by turns
        String[] laws = {"n1(!!!1=2)", "n2(1=1)", "n3(1=1&!1=2)", "n4(!(1=1)|e=0)", "n5(1=1)", "n6+1-1*1(1=1);n7(1=1)", "n8(1=1)"};
        for (int turn = 0; turn < 3; turn++) {
            for (int i = 0; i < laws.length; i++) {
                for (int j = 0; j < laws.length; j++) {
                    for (int one : new int[] {i, j}) {
                        Checks.law(x, laws[one]);
                        C.due(laws[one], x.tried(1, 2), debt + laws[one].charAt(1) - '0');
                    }
                    x = j % 3 == 2 ? new MiddleBridge() : x;
                    debt = x.count(2);
                }
            }
        }
    }
}
