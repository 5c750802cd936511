import java.util.regex.Matcher;
import java.util.regex.Pattern;

/** A PLAN's text at its edges: each FAULT with its place, the end too, and what stays by it. */
public final class PlanEdgesTest {
    private static final Checks C = new Checks();
    private static final String NUMBER = "[0-9]{1,3}";

    public static void main(String[] args) {
        allShortTexts();
        stonesOfAnArch();
        digits();
        times();
        brackets();
        arches();
        archesAreAskedWhenAnItemEnds();
        firstFromTheLeft();
        signs();
        ends();
        C.end("PlanEdgesTest");
    }

    private static int answer(String text) {
        return Checks.plan(new MiddleBridge(), 0, text);
    }

    private static void is(String text, int due) {
        C.due("plan " + text, answer(text), due);
    }

    private static String items(int open) {
        String item = open == 0 ? NUMBER : "(?:" + NUMBER + "|\\(" + items(open - 1) + "\\))";
        String one = "(?:[2-9]x)?" + item;
        return one + "(?:," + one + ")*";
    }

    private static final Pattern TWO_OPEN = Pattern.compile(items(2));
    private static final Pattern THREE_OPEN = Pattern.compile(items(3));

    /** Whether something can be told behind it so that it is a text of the pattern, or it is one. */
    private static boolean goesOn(Pattern pattern, String text) {
        Matcher m = pattern.matcher(text);
        return m.matches() || m.hitEnd();
    }

    /** What the sentences on FAULTS ask of a text of few ARCHES: by looking at each sign in turn. */
    private static int faultOf(String text) {
        int start = -1;
        for (int i = 0; i <= text.length(); i++) {
            boolean digit = i < text.length() && Character.isDigit(text.charAt(i));
            boolean told = i + 1 < text.length() && text.charAt(i + 1) == 'x' && text.charAt(i) >= '2' && (i == 0 || text.charAt(i - 1) != 'x');
            if (start >= 0 && !digit) {
                int number = Integer.parseInt(text.substring(start, i));
                if (number < 1 || number > 255) {
                    return -3000 - start;
                }
                start = -1;
            }
            String ahead = text.substring(0, i);
            if (i == text.length()) {
                return TWO_OPEN.matcher(ahead).matches() ? 0 : -1000 - i;
            }
            if (!goesOn(TWO_OPEN, text.substring(0, i + 1))) {
                boolean fourth = digit && start >= 0 && i - start == 3;
                boolean third = text.charAt(i) == '(' && goesOn(THREE_OPEN, text.substring(0, i + 1));
                return (fourth ? -2000 : third ? -5000 : -1000) - i;
            }
            if (digit && start < 0 && !told) {
                start = i;
            }
        }
        return 0;
    }

    /** Every text of up to six of these signs. */
    private static void allShortTexts() {
        char[] signs = {'0', '3', 'x', '(', ')', ','};
        MiddleBridge x = new MiddleBridge();
        int calls = 0;
        for (int length = 1; length <= 6; length++) {
            int[] at = new int[length];
            boolean more = true;
            while (more) {
                StringBuilder b = new StringBuilder();
                for (int one : at) {
                    b.append(signs[one]);
                }
                if (calls > 500) {
                    x = new MiddleBridge();
                    calls = 0;
                }
                calls += 2;
                int got = Checks.plan(x, 0, b.toString());
                C.due("plan " + b, Math.min(got, 0), faultOf(b.toString()));
                more = false;
                for (int i = length - 1; i >= 0 && !more; i--) {
                    at[i] = (at[i] + 1) % signs.length;
                    more = at[i] != 0;
                }
            }
        }
    }

    /** "A number of one to three digits (1 to 255)"; "3 a number that is 0, above 255, at its first digit". */
    private static void stonesOfAnArch() {
        is("0", -3000);
        is("1", 1);
        is("255", 1);
        is("256", -3000);
        is("999", -3000);
        is("00", -3000);
        is("000", -3000);
        is("001", 1);
        is("1,0", -3002);
        is("1,2,256,3", -3004);
        is("(256)", -3001);
        is("(1,(0))", -3004);
        is("9x256", -3002);
        is("9x0", -3002);
        is("2x(7,300)", -3005);
        MiddleBridge x = new MiddleBridge();
        Checks.plan(x, 0, "1,255,001,099,9");
        int[] due = {1, 255, 1, 99, 9};
        for (int i = 0; i < 5; i++) {
            C.due("stones of arch " + (i + 1), x.archIs(0, i + 1, 0), due[i]);
        }
    }

    /** "2 a fourth digit, at it": the number has not ended then, so it is not asked whether it is 0 or too great. */
    private static void digits() {
        is("123", 1);
        is("1234", -2003);
        is("0000", -2003);
        is("9999", -2003);
        is("12345", -2003);
        is("1,2,0001", -2007);
        is("2x1234", -2005);
        is("((1234))", -2005);
        is("3x(2x0255)", -2008);
    }

    /** "Ahead of each perhaps a digit 2 to 9 and x"; "a digit 2 to 9 with an x just behind it tells times". */
    private static void times() {
        is("0x5", -3000);
        is("1x5", -1001);
        is("2x5", 2);
        is("9x5", 9);
        is("x5", -1000);
        is("10x5", -1002);
        is("22x5", -1002);
        is("2X5", -1001);
        is("2*5", -1001);
        is("2x(1,2)", 4);
        is("9x(1,2)", 18);
        is("2x", -1002);
        is("2x,", -1002);
        is("2x)", -1002);
        is("2xx", -1002);
        is("2x2x5", -1003);
        is("2", 1);
        is("2,9x1", 10);
        is("(9x1)", 9);
        is("(1x1)", -1002);
        MiddleBridge x = new MiddleBridge();
        C.due("plan", Checks.plan(x, 0, "3x(1,2x4),2x7,2"), 12);
        int[] due = {1, 4, 4, 1, 4, 4, 1, 4, 4, 7, 7, 2};
        for (int i = 0; i < 12; i++) {
            C.due("stones of arch " + (i + 1), x.archIs(0, i + 1, 0), due[i]);
        }
    }

    /** "5 a third ( that is open in another one, at it"; how many stand one behind the other is not asked. */
    private static void brackets() {
        is("(1)", 1);
        is("((1))", 1);
        is("(((1)))", -5002);
        is("(1),(1),(1)", 3);
        is("((1),(1)),((1))", 3);
        is("((1),(1),(1,(1)))", -5012);
        is("(1,(1,(", -5006);
        is("((1),1,2x(", -1010);
        is("2x(2x(2x(1", -5008);
        is("((", -1002);
        is("((((", -5002);
        is("1(((", -1001);
    }

    /** "20 at most"; "6 more than 20 ARCHES, at the first byte of the ITEM (or its digit ahead of the x)". */
    private static void arches() {
        String twenty = Checks.times("7", 20, ",");
        is(twenty.substring(2), 19);
        is(twenty, 20);
        is(twenty + ",7", -6040);
        is("9x1,9x1,2x1", 20);
        is("9x1,9x1,3x1", -6008);
        is("9x1,9x1,1,1", 20);
        is("9x1,9x1,1,1,1", -6012);
        is("5x(2x(2x1))", 20);
        is("2x(2x(5x1))", 20);
        is("7x(3x1)", -6000);
        is("9x1,9x1,(1,1)", 20);
        is("9x1,9x1,(2x1,1)", -6013);
        is("9x1,9x1,2x(1,1)", -6008);
        is("2x(9x1,2x(1))", -6000);
        is("(9x1,9x1,3x1)", -6009);
        is("9x(9x1,9x1,9x1)", -6011);
        is("1,(9x1),(5x(2x1)),255", -6018);
        MiddleBridge x = new MiddleBridge();
        Checks.plan(x, 0, "3,4");
        Checks.plan(x, 1, twenty);
        C.due("21 arches", Checks.plan(x, 0, twenty + ",7"), -6040);
        C.due("21 arches right", Checks.plan(x, 1, twenty + ",7"), -6040);
        C.due("the one before stays", x.sideIs(0, 6), 7);
        C.due("the one before stays right", x.sideIs(1, 6), 140);
        C.due("arch 20", x.archIs(1, 20, 0), 7);
        C.due("arch 21", x.archIs(1, 21, 0), -1);
    }

    /** "(asked when it ends; of an inner one first)". */
    private static void archesAreAskedWhenAnItemEnds() {
        // the fourth digit comes ahead of the end
        is("9x1,9x1,1,1,1234", -2015);
        // the number's own FAULT is asked when the number ends
        is("9x1,9x1,1,1,256", -3012);
        is("9x1,9x1,3x0", -3010);
        // what stands behind the ITEM is not looked at then
        is("9x1,9x1,1,1,1x", -6012);
        is("9x1,9x1,1,1,1,", -6012);
        is("9x1,9x1,1,1,1)", -6012);
        // the outer ITEM has not ended
        is("9x(9x1", -1006);
        is("9x(9x1,", -1007);
        is("9x(9x1x", -1006);
        is("9x(9x1,0)", -3007);
        is("9x(9x1)", -6000);
        is("9x(3x(9x1))", -6003);
        is("9x(3x(9x1,9x1,9x1))", -6014);
    }

    private static void firstFromTheLeft() {
        is("0,0", -3000);
        is("256,?", -3000);
        is("256?", -3000);
        is("?256", -1000);
        is("1234,0", -2003);
        is("0,1234", -3000);
        is("(((,1234", -5002);
        is("1,,256", -1002);
    }

    /** "1 what can't stand there": each of all 256 signs, at the start, in a number, behind an x, a ( and a ). */
    private static void signs() {
        for (int sign = 0; sign < 256; sign++) {
            char c = (char) sign;
            boolean digit = c >= '0' && c <= '9';
            boolean opens = c == '(';
            boolean parts = c == ',';
            only("", c, digit || opens ? 0 : -1000);
            only("5", c, digit || parts || c == 'x' ? 0 : -1001);
            only("1", c, digit || parts ? 0 : -1001);
            only("2", c, digit || parts || c == 'x' ? 0 : -1001);
            only("2x", c, digit || opens ? 0 : -1002);
            only("(", c, digit || opens ? 0 : -1001);
            only("(1", c, digit || parts || c == ')' ? 0 : -1002);
            only("(1)", c, parts ? 0 : -1003);
            only("1,", c, digit || opens ? 0 : -1002);
            boolean told = c >= '2' && c <= '9';
            is(c + "x5", told ? c - '0' : c == '0' ? -3000 : digit || opens ? -1001 : -1000);
        }
    }

    /** A sign behind a text: a FAULT 1 at it, or one that is told later, if any. */
    private static void only(String ahead, char sign, int due) {
        int got = answer(ahead + sign);
        boolean at = got == -1000 - ahead.length();
        C.due("plan " + ahead + " and the sign " + (int) sign, at ? got : 0, due);
    }

    /** "(the end, too)": at the end stands place n. */
    private static void ends() {
        is("(", -1001);
        is("5,", -1002);
        is("(5", -1002);
        is("(5,", -1003);
        is("((5)", -1004);
        is("3x", -1002);
        is("3x(", -1003);
        String longest = Checks.times("005", 20, ",") + ",";
        C.due("80 bytes", longest.length(), 80);
        is(longest, -1080);
        MiddleBridge x = new MiddleBridge();
        Checks.feed(x, Checks.bytes("5,6,7"));
        C.due("the end is where n tells, not where the tape ends", x.plan(0, 2), -1002);
        Checks.feed(x, Checks.bytes("2x5"));
        C.due("an x behind the end tells nothing", x.plan(0, 1), 1);
        C.due("stones of it", x.archIs(0, 1, 0), 2);
    }
}
