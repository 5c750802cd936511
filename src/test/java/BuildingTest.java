/** Promises 14 and 15: even, inARow. */
public final class BuildingTest {
    private static final Checks C = new Checks();

    public static void main(String[] args) {
        even();
        inARow();
        C.end("BuildingTest");
    }

    private static void even(MiddleBridge x, int apart, int many, int... weights) {
        Checks.feed(x, weights);
        C.due("even 0", x.even(weights.length, 0), apart);
        C.due("the tape is empty", x.count(6), 0);
        Checks.feed(x, weights);
        C.due("even 1", x.even(weights.length, 1), many);
    }

    private static void even() {
        MiddleBridge x = new MiddleBridge();
        Checks.plan(x, 0, "10,10");
        Checks.plan(x, 1, "10,10,10");
        Checks.orders(x, "l+10;r+30");
        // 10 and 60: left by 1, right by 3 times the weight
        even(x, 0, 1, 50);
        even(x, 50, 0, 101);
        even(x, 49, 1, 99);
        even(x, 10, 2, 30, 10);
        even(x, 0, 2, 1, 1, 49, 99);
        even(x, 2, 1, 48, 99);
        even(x, 0, 2, 53, 1);
        even(x, 0, 1, 20, 30, 50);
        even(x, 0, 2, 20, 30, 53, 255);
        even(x, 42, 8, 1, 1, 1, 1, 1, 1, 1, 1);
        even(x, 0, 1, 255, 254, 253, 252, 251, 250, 249, 50);
        // a bench that is there stays there
        Checks.orders(x, "lb1:40");
        even(x, 0, 1, 10);
        even(x, 1, 1, 11);
        MiddleBridge y = new MiddleBridge();
        int[][] wrong = {{0, 0}, {-1, 0}, {9, 0}, {1, -1}, {1, 2}, {21, 0}, {Integer.MAX_VALUE, 0}};
        Checks.feed(y, 0, 0, 0);
        for (int[] w : wrong) {
            C.due("even(" + w[0] + ", " + w[1] + ")", y.even(w[0], w[1]), -1);
        }
        C.due("the tape stays", y.count(6), 20);
        C.due("no arch stands", y.even(1, 0), -2);
        C.due("the tape is empty", y.count(6), 0);
        C.due("even of no tape", y.even(1, 0), -1);
        Checks.plan(y, 0, "1");
        Checks.plan(y, 1, "1");
        Checks.orders(y, "l+1");
        Checks.feed(y, 1);
        C.due("none stands right", y.even(1, 1), -2);
        Checks.orders(y, "l-1;r+1");
        Checks.feed(y, 1);
        C.due("none stands left", y.even(1, 1), -2);
        Checks.orders(y, "l+1");
        Checks.feed(y, 1, 2, 0, 3);
        C.due("a weight 0", y.even(4, 1), -3);
        Checks.feed(y, 1, 2, 0, 3);
        C.due("it is not asked", y.even(2, 1), 0);
    }

    private static int ways(String left, String right, String orders) {
        MiddleBridge x = new MiddleBridge();
        if (!left.isEmpty()) {
            Checks.plan(x, 0, left);
        }
        if (!right.isEmpty()) {
            Checks.plan(x, 1, right);
        }
        if (!orders.isEmpty()) {
            Checks.orders(x, orders);
        }
        return x.inARow();
    }

    private static void inARow() {
        C.due("nothing to build", ways("", "", ""), 1);
        C.due("all is built", ways("1", "1,1", "l+1;r+2"), 1);
        C.due("one side", ways("1,1,1", "", ""), 1);
        C.due("one and one", ways("1", "1", ""), 2);
        C.due("two and two", ways("1,1", "1,1", ""), 4);
        C.due("one and three", ways("1", "1,1,1", ""), 2);
        C.due("three and one", ways("1,1,1", "1", ""), 2);
        C.due("five and five", ways("5x1", "5x1", ""), 32);
        C.due("twenty and twenty", ways("9x1,9x1,2x1", "9x1,9x1,2x1", ""), 1 << 20);
        C.due("one is there", ways("1,1", "1,1", "l+1"), 2);
        C.due("two are there", ways("1,1,1,1", "1,1,1", "l+2"), 2);
        C.due("two are there, the right one has two", ways("1,1,1,1", "1,1", "l+2"), 1);
        C.due("two are there, the right one has one", ways("1,1,1", "1", "l+2"), 1);
        C.due("three are there: too far behind by any step", ways("1,1,1,1", "1,1", "l+3"), 0);
        C.due("three are there, the right one has one", ways("1,1,1,1", "1", "l+3"), 1);
        C.due("they do not wait for one that has all", ways("1,1,1,1,1", "1", "r+1"), 1);
        C.due("stones of an arch that stands not", ways("1,9", "1,9", "l+9;r+9"), 2);
    }
}
