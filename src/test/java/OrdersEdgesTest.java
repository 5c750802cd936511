import java.util.regex.Matcher;
import java.util.regex.Pattern;

/** ORDERS at their edges: each FAULT with its place, the end too, and the bounds of what they change. */
public final class OrdersEdgesTest {
    private static final Checks C = new Checks();
    private static final String NUMBER = "[0-9]{1,4}";
    private static final String LINE = "(?:[lr](?:[+-]" + NUMBER + "|b" + NUMBER + ":" + NUMBER + ")|[sd][+-]" + NUMBER + ")";
    private static final Pattern LINES = Pattern.compile(LINE + "(?:;" + LINE + ")*");

    public static void main(String[] args) {
        allShortTexts();
        digits();
        archesAndBenches();
        lines();
        signs();
        ends();
        firstFromTheLeft();
        stonesLaid();
        store();
        debt();
        benches();
        oneBehindTheOther();
        nothingIsDone();
        C.end("OrdersEdgesTest");
    }

    private static void is(String text, int due) {
        C.due("orders " + text, Checks.orders(new MiddleBridge(), text), due);
    }

    private static boolean goesOn(String text) {
        Matcher m = LINES.matcher(text);
        return m.matches() || m.hitEnd();
    }

    /** What the sentences on FAULTS ask of a text of few LINES: by looking at each sign in turn. */
    private static int faultOf(String text) {
        int start = -1;
        for (int i = 0; i <= text.length(); i++) {
            boolean digit = i < text.length() && Character.isDigit(text.charAt(i));
            if (start > 0 && !digit) {
                int number = Integer.parseInt(text.substring(start, i));
                char ahead = text.charAt(start - 1);
                if (ahead == 'b' && (number < 1 || number > 20) || ahead == ':' && number > 255) {
                    return -3000 - start;
                }
                start = -1;
            }
            if (i == text.length()) {
                return LINES.matcher(text).matches() ? 0 : -1000 - i;
            }
            if (!goesOn(text.substring(0, i + 1))) {
                return (digit && start > 0 && i - start == 4 ? -2000 : -1000) - i;
            }
            if (digit && start < 0) {
                start = i;
            }
        }
        return 0;
    }

    /** Every text of up to six of these signs. */
    private static void allShortTexts() {
        char[] signs = {'0', '3', 'l', 's', 'b', ':', ';', '-'};
        MiddleBridge x = new MiddleBridge();
        int calls = 0;
        for (int length = 1; length <= 6; length++) {
            for (int code = 0; code < 1 << 3 * length; code++) {
                StringBuilder b = new StringBuilder();
                for (int i = length - 1; i >= 0; i--) {
                    b.append(signs[code >> 3 * i & 7]);
                }
                if (calls > 500) {
                    x = new MiddleBridge();
                    calls = 0;
                }
                calls += 2;
                String text = b.toString();
                int due = faultOf(text);
                C.due("orders " + text, Checks.orders(x, text), due < 0 ? due : text.replaceAll("[^;]", "").length() + 1);
            }
        }
    }

    /** "Numbers of one to four digits"; "2 a fifth digit, at it". */
    private static void digits() {
        for (String ahead : new String[] {"l+", "l-", "r+", "r-", "s+", "s-", "d+", "d-", "lb1:", "rb20:"}) {
            is(ahead, -1000 - ahead.length());
            is(ahead + "1", 1);
            is(ahead + "0001", 1);
            is(ahead + "00001", -2000 - ahead.length() - 4);
            is(ahead + "99999", -2000 - ahead.length() - 4);
            is(ahead + "9x", -1000 - ahead.length() - 1);
        }
        is("lb", -1002);
        is("lb0001:1", 1);
        is("lb00001:1", -2006);
        is("lb00000:1", -2006);
        is("lb99999:1", -2006);
        is("s+1;rb00020", -2010);
    }

    /** "3 an ARCH 0 or above 20, a BENCH above 255, at the number's first digit (asked when it ends)". */
    private static void archesAndBenches() {
        is("lb0:5", -3002);
        is("lb1:5", 1);
        is("lb20:5", 1);
        is("lb21:5", -3002);
        is("lb99:5", -3002);
        is("lb0000:5", -3002);
        is("lb0020:5", 1);
        is("lb0021:5", -3002);
        is("lb9999:5", -3002);
        is("lb21", -3002);
        is("lb21?", -3002);
        is("lb21;", -3002);
        is("lb20?", -1004);
        is("lb1:0", 1);
        is("lb1:255", 1);
        is("lb1:256", -3004);
        is("lb1:0255", 1);
        is("lb1:0256", -3004);
        is("lb1:9999", -3004);
        is("lb1:256?", -3004);
        is("lb1:256;?", -3004);
        is("lb20:256", -3005);
        is("lb21:256", -3002);
        is("s+9;rb0:1", -3006);
        is("s+9;rb1:300", -3008);
        // no other number can be wrong
        is("l+0;l-0;r+9999;r-9999;s+9999;s-0;d+9999;d-0000", 8);
    }

    /** "20 at most"; "4 a 21st LINE, at its letter (if that can stand there)". */
    private static void lines() {
        String nineteen = Checks.times("s+1", 19, ";");
        String twenty = nineteen + ";s+1";
        is("s+1", 1);
        is(nineteen, 19);
        is(twenty, 20);
        for (char letter : "lrsd".toCharArray()) {
            is(twenty + ";" + letter, -4080);
            is(twenty + ";" + letter + "+1", -4080);
            is(twenty + ";" + letter + "?", -4080);
        }
        for (char other : "LRSDbx0+-:; ".toCharArray()) {
            is(twenty + ";" + other, -1080);
        }
        is(twenty + ";", -1080);
        is(twenty + ",", -1079);
        is(nineteen + ";s+12345;l+1", -2082);
    }

    /** "1 what can't stand there": each of all 256 signs at each kind of place. */
    private static void signs() {
        for (int sign = 0; sign < 256; sign++) {
            char c = (char) sign;
            boolean digit = c >= '0' && c <= '9';
            boolean letter = "lrsd".indexOf(c) >= 0;
            boolean change = c == '+' || c == '-';
            only("", c, letter);
            only("l", c, change || c == 'b');
            only("r", c, change || c == 'b');
            only("s", c, change);
            only("d", c, change);
            only("l+", c, digit);
            only("s-", c, digit);
            only("l+1", c, digit || c == ';');
            only("d-1", c, digit || c == ';');
            only("lb", c, digit);
            only("lb1", c, digit || c == ':');
            only("lb1:", c, digit);
            only("lb1:1", c, digit || c == ';');
            only("lb1:1;", c, letter);
        }
    }

    private static void only(String ahead, char sign, boolean stands) {
        int got = Checks.orders(new MiddleBridge(), ahead + sign);
        C.due("orders " + ahead + " and the sign " + (int) sign, got == -1000 - ahead.length(), !stands);
    }

    /** "(the end, too)": the place n. */
    private static void ends() {
        is("l", -1001);
        is("l+", -1002);
        is("l-", -1002);
        is("lb", -1002);
        is("lb1", -1003);
        is("lb1:", -1004);
        is("lb1:1;", -1006);
        is("s", -1001);
        is("d+", -1002);
        MiddleBridge x = new MiddleBridge();
        Checks.feed(x, Checks.bytes("l+12"));
        C.due("the end is where n tells", x.orders(2), -1002);
        Checks.feed(x, Checks.bytes("l+12"));
        C.due("a digit behind the end is not read", x.orders(3), 1);
        C.due("left", x.sideIs(0, 2), 1);
        String most = Checks.times("s+0001", 16, ";") + ";lb01:01";
        C.due("119 bytes", most.length(), 119);
        is(most + ";", -1120);
    }

    private static void firstFromTheLeft() {
        is("lb0:256", -3002);
        is("lb0?12345", -3002);
        is("?lb0", -1000);
        is("s+12345;?", -2006);
        is("s?12345", -1001);
        is("lb1:300;lb0:1", -3004);
        is(Checks.times("s+1", 20, ";") + ";lb0", -4080);
        is(Checks.times("s+1", 18, ";") + ";lb0:1;s+1;s+1", -3074);
    }

    /** "(STONES laid more or less, 0 at least, 9999 at most)". */
    private static void stonesLaid() {
        for (int side = 0; side < 2; side++) {
            char letter = "lr".charAt(side);
            MiddleBridge x = new MiddleBridge();
            laid(x, side, letter + "-0", 0);
            laid(x, side, letter + "-1", 0);
            laid(x, side, letter + "-9999", 0);
            laid(x, side, letter + "+1", 1);
            laid(x, side, letter + "-2", 0);
            laid(x, side, letter + "+9998", 9998);
            laid(x, side, letter + "+1", 9999);
            laid(x, side, letter + "+0", 9999);
            laid(x, side, letter + "+1", 9999);
            laid(x, side, letter + "+9999", 9999);
            laid(x, side, letter + "-1", 9998);
            laid(x, side, letter + "+2", 9999);
            laid(x, side, letter + "-9999", 0);
            C.due("the other side", x.sideIs(1 - side, 2), 0);
        }
    }

    private static void laid(MiddleBridge x, int side, String line, int due) {
        C.due("orders " + line, Checks.orders(x, line), 1);
        C.due(line, x.sideIs(side, 2), due);
    }

    /** STORE: "a number (0 at least, its most at most)": 99999. */
    private static void store() {
        MiddleBridge x = new MiddleBridge();
        counted(x, 1, "s-1", 0);
        counted(x, 1, "s+9999", 9999);
        counted(x, 1, Checks.times("s+9999", 9, ";"), 99990);
        counted(x, 1, "s+9", 99999);
        counted(x, 1, "s+1", 99999);
        counted(x, 1, "s+9999", 99999);
        counted(x, 1, "s-1", 99998);
        counted(x, 1, "s+2", 99999);
        counted(x, 1, "s-9999", 90000);
        counted(x, 1, Checks.times("s-9999", 9, ";"), 9);
        counted(x, 1, "s-9", 0);
        counted(x, 1, "s-9999", 0);
        C.due("the debt", x.count(2), 0);
    }

    /** DEBT: 999999 at most. */
    private static void debt() {
        MiddleBridge x = new MiddleBridge();
        counted(x, 2, "d-9999", 0);
        for (int i = 1; i <= 10; i++) {
            counted(x, 2, Checks.times("d+9999", 10, ";"), 99990 * i);
        }
        counted(x, 2, "d+98", 999998);
        counted(x, 2, "d+1", 999999);
        counted(x, 2, "d+1", 999999);
        counted(x, 2, "d+9999", 999999);
        counted(x, 2, "d-1", 999998);
        counted(x, 2, "d+2", 999999);
        for (int i = 1; i <= 10; i++) {
            counted(x, 2, Checks.times("d-9999", 10, ";"), 999999 - 99990 * i);
        }
        counted(x, 2, "d-98", 1);
        counted(x, 2, "d-2", 0);
        C.due("the store", x.count(1), 0);
    }

    private static void counted(MiddleBridge x, int what, String lines, int due) {
        C.due("orders " + lines, Checks.orders(x, lines) > 0, true);
        C.due(lines, x.count(what), due);
    }

    /** BENCH: "0 to 255; one at most at an ARCH; 0: none", also at an ARCH that no PLAN has yet. */
    private static void benches() {
        MiddleBridge x = new MiddleBridge();
        String twenty = "9x1,9x1,2x1";
        C.due("a bench ahead of any plan", Checks.orders(x, "lb1:1;rb20:255"), 2);
        C.due("no plan has it", x.archIs(0, 1, 2), -1);
        Checks.plan(x, 0, twenty);
        Checks.plan(x, 1, twenty);
        C.due("left 1", x.archIs(0, 1, 2), 1);
        C.due("left 2", x.archIs(0, 2, 2), 0);
        C.due("right 1", x.archIs(1, 1, 2), 0);
        C.due("right 19", x.archIs(1, 19, 2), 0);
        C.due("right 20", x.archIs(1, 20, 2), 255);
        C.due("left 20", x.archIs(0, 20, 2), 0);
        Checks.orders(x, "lb1:7;lb20:3");
        C.due("one at most: the later one", x.archIs(0, 1, 2), 7);
        C.due("left 20", x.archIs(0, 20, 2), 3);
        C.due("right 1 is another one", x.archIs(1, 1, 2), 0);
        Checks.orders(x, "lb1:0");
        C.due("none", x.archIs(0, 1, 2), 0);
        C.due("the store", x.count(1), 0);
        C.due("stones laid", x.sideIs(0, 2), 0);
    }

    /** LINES are done from the first to the last, each within the bounds. */
    private static void oneBehindTheOther() {
        MiddleBridge x = new MiddleBridge();
        counted(x, 1, "s-5;s+3", 3);
        counted(x, 1, "s+5;s-8;s+1", 1);
        counted(x, 2, "d-5;d+3;d-1", 2);
        laid(x, 0, "l+1", 1);
        C.due("orders", Checks.orders(x, "l-9;l+9999;l+9;l-8"), 4);
        C.due("left", x.sideIs(0, 2), 9991);
    }

    /** "Nothing is done by ORDERS with a FAULT". */
    private static void nothingIsDone() {
        String all = "l+5;r+6;s+7;d+8;lb1:9;";
        for (String wrong : new String[] {"", "?", "l", "l+", "l+12345", "lb0:1", "lb1:256", "lb1"}) {
            MiddleBridge x = new MiddleBridge();
            Checks.plan(x, 0, "2");
            String before = Looks.of(x);
            C.due("orders " + all + wrong, Checks.orders(x, all + wrong) < -1000, true);
            C.due(all + wrong + ": nothing is done", Looks.of(x).equals(before), true);
        }
        MiddleBridge x = new MiddleBridge();
        C.due("a 21st line", Checks.orders(x, Checks.times("s+1", 21, ";")), -4080);
        C.due("none of the 20 is done", x.count(1), 0);
    }
}
