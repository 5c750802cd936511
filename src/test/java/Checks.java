/** What all tests use: a bridge with a tape that is fed texts, and answers that are due. */
final class Checks {
    private int asked;
    private int wrong;

    void due(String call, long got, long want) {
        asked++;
        if (got != want) {
            wrong++;
            System.out.println(call + " answered " + got + ", due is " + want);
        }
    }

    void due(String call, boolean got, boolean want) {
        due(call, got ? 1 : 0, want ? 1 : 0);
    }

    /** Ends the test: exit code 1 if an answer was wrong or none was asked. */
    void end(String name) {
        System.out.println(name + ": " + asked + " answers, " + wrong + " not as due");
        if (wrong != 0 || asked == 0) {
            System.exit(1);
        }
    }

    /** Feeds the bytes, filled up with zeros to whole feeds. */
    static void feed(MiddleBridge x, int... bytes) {
        for (int at = 0; at < bytes.length; at += 20) {
            int[] five = new int[5];
            for (int i = 0; i < 20 && at + i < bytes.length; i++) {
                five[i / 4] |= (bytes[at + i] & 255) << (24 - 8 * (i % 4));
            }
            x.feed(five[0], five[1], five[2], five[3], five[4]);
        }
    }

    static int[] bytes(String text) {
        int[] row = new int[text.length()];
        for (int i = 0; i < row.length; i++) {
            row[i] = text.charAt(i);
        }
        return row;
    }

    static int plan(MiddleBridge x, int side, String text) {
        feed(x, bytes(text));
        return x.plan(side, text.length());
    }

    static int orders(MiddleBridge x, String text) {
        feed(x, bytes(text));
        return x.orders(text.length());
    }

    static int law(MiddleBridge x, String text) {
        feed(x, bytes(text));
        return x.law(text.length());
    }

    /** A bridge by these texts, each of which must be right; an empty one is not told. */
    MiddleBridge bridge(String left, String right, String law, String orders) {
        MiddleBridge x = new MiddleBridge();
        due("plan " + left, left.isEmpty() || plan(x, 0, left) > 0, true);
        due("plan " + right, right.isEmpty() || plan(x, 1, right) > 0, true);
        due("law " + law, law.isEmpty() || law(x, law) > 0, true);
        due("orders " + orders, orders.isEmpty() || orders(x, orders) > 0, true);
        return x;
    }

    static String times(String text, int n, String between) {
        StringBuilder all = new StringBuilder(text);
        for (int i = 1; i < n; i++) {
            all.append(between).append(text);
        }
        return all.toString();
    }
}
