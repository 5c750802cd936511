import java.util.Arrays;
import java.util.Random;

/** Random runs of calls, right and wrong ones: MiddleBridge answers as the Oracle does. */
public final class RandomRunsTest {
    private static final int RUNS = Integer.getInteger("runs", 400);

    private final Random random;
    private final Checks checks;
    private MiddleBridge bridge;
    private Oracle oracle;
    private int run;
    private int calls;

    private RandomRunsTest(Random random, Checks checks) {
        this.random = random;
        this.checks = checks;
    }

    public static void main(String[] args) {
        Checks checks = new Checks();
        RandomRunsTest test = new RandomRunsTest(new Random(20261118), checks);
        for (int run = 0; run < RUNS; run++) {
            test.oneRun(run);
        }
        checks.end("RandomRunsTest");
    }

    private void oneRun(int number) {
        run = number;
        calls = 0;
        bridge = new MiddleBridge();
        oracle = new Oracle();
        if (number % 2 == 0) {
            while (calls < 500) {
                step();
            }
        } else {
            while (calls < 500) {
                building();
            }
        }
    }

    /** Both sides planned, a law by which they are mostly built, and days a few at a time. */
    private void building() {
        text(Checks.times("" + (1 + random.nextInt(30)), 1 + random.nextInt(9), "," + pick(1, 7, 40, 255) + ","), "plan", 0);
        text(Checks.times(pick(2, 3, 4) + "x" + (1 + random.nextInt(60)), 1 + random.nextInt(5), ","), "plan", 1);
        text("s+" + random.nextInt(500) + ";l+" + random.nextInt(60) + ";rb2:" + random.nextInt(256) + ";l-" + random.nextInt(60), "orders");
        text("w" + sum(1, 20) + "(r<" + random.nextInt(12) + ");w" + random.nextInt(60) + "(t>1);"
            + "c" + sum(2, 20) + "(" + condition(2, 20) + ");i" + random.nextInt(120) + "(r>" + random.nextInt(5) + ");n"
            + sum(1, 10) + "(1=1)" + (random.nextBoolean() ? ";x(" + condition(3, 30) + ")" : ""), "law");
        call("tilt", pick(99999, 99999, 2000, 300, 50));
        if (random.nextInt(3) == 0) {
            call("seed", random.nextInt(65536));
        }
        call("keep");
        for (int i = 0; i < 8; i++) {
            call("touches", 240, random.nextInt(2));
            call("ahead", 1 + random.nextInt(60));
            call("beyond", 240, random.nextInt(pick(1000, 20000, 400000)));
            call("tried", 1 + random.nextInt(240), pick(0, 1, 2, 3, 10, 11));
            call("inARow");
            row("even", 1 + random.nextInt(8), 8, 1, pick(5, 40, 255));
            call("days", 1 + random.nextInt(random.nextInt(6) == 0 ? 240 : 4));
            check();
            look();
            if (random.nextInt(3) == 0) {
                text(orders(), "orders");
            }
        }
        call("undo");
    }

    private void step() {
        switch (random.nextInt(34)) {
            case 0: case 1: text(items(0), "plan", random.nextInt(2)); break;
            case 2: case 3: text(orders(), "orders"); break;
            case 4: case 5: case 6: text(law(), "law"); break;
            case 7: case 8: case 9: call("days", number(1, 240)); break;
            case 10: call("tried", number(1, 240), pick(0, 1, 2, 3, 10, 11, 4, 9, 12, -1)); break;
            case 11: call("touches", number(1, 240), number(0, 1)); break;
            case 12: call("ahead", number(1, 240)); break;
            case 13: call("beyond", number(1, 240), number(0, random.nextBoolean() ? 999999 : 5000)); break;
            case 14: row("even", number(1, 8), 8, random.nextInt(9) == 0 ? 0 : 1, 255); break;
            case 15: call("inARow"); break;
            case 16: call("ball", number(1, 200), number(0, 99), number(0, 99), number(1, 20), number(0, 20)); break;
            case 17: call("leastSpeed", number(1, 200), number(0, 99), number(0, 99), number(0, 20)); break;
            case 18: piles(); break;
            case 19: lamps(); break;
            case 20: claims(); break;
            case 21: row("rowed", number(1, 10), 10, 0, random.nextBoolean() ? 255 : 9); break;
            case 22: wed(); break;
            case 23: changes(); break;
            case 24: call("dialect", number(1, 8), number(0, 8), number(0, 1)); break;
            case 25: call("owed", number(1, random.nextBoolean() ? 99999 : 5000), number(0, 50)); break;
            case 26: call("seed", number(0, 65535)); break;
            case 27: call("keep"); break;
            case 28: call("undo"); break;
            case 29: check(); break;
            case 30: call("tilt", number(0, pick(99999, 300, 20))); break;
            case 31: call("feed", random.nextInt(), random.nextInt(), random.nextInt(), 0, -1); break;
            default: look(); break;
        }
    }

    private void look() {
        for (int what = -1; what < 10; what++) {
            call("count", what);
        }
        for (int side = 0; side < 2; side++) {
            for (int what = 0; what < 7; what++) {
                call("sideIs", side, what);
            }
            call("archIs", side, number(1, 20), number(0, 2));
        }
        call("sideIs", number(0, 1), number(0, 6));
    }

    /** Mostly within the bounds, often at them, seldom beyond them. */
    private int number(int least, int most) {
        switch (random.nextInt(24)) {
            case 0: return least - 1;
            case 1: return most + 1;
            case 2: case 3: return least;
            case 4: case 5: return most;
            case 6: return pick(0, -1, Integer.MIN_VALUE, Integer.MAX_VALUE, 1 << 16, 1 << 30);
            case 7: return least + random.nextInt(Math.min(5, most - least + 1));
            default: return least + random.nextInt(most - least + 1);
        }
    }

    private int pick(int... of) {
        return of[random.nextInt(of.length)];
    }

    private void feed(int... bytes) {
        for (int i = 0; i < bytes.length; i += 20) {
            int[] five = new int[5];
            for (int j = 0; j < 20; j++) {
                int one = i + j < bytes.length ? bytes[i + j] : random.nextInt(3) == 0 ? random.nextInt(256) : 0;
                five[j / 4] = five[j / 4] << 8 | one & 255;
            }
            call("feed", five);
        }
    }

    /** The text as it is or spoilt, its right length or another one. */
    private void text(String text, String name, int... ahead) {
        StringBuilder b = new StringBuilder(text);
        for (int i = random.nextInt(3) == 0 ? 1 + random.nextInt(2) : 0; i > 0 && b.length() > 0; i--) {
            int at = random.nextInt(b.length());
            String signs = "0123456789x,();:+-*/%<>=!&|[]wcinxeabghsktrlrsdb aQ\u00ff";
            char sign = signs.charAt(random.nextInt(signs.length()));
            switch (random.nextInt(3)) {
                case 0: b.deleteCharAt(at); break;
                case 1: b.insert(at, sign); break;
                default: b.setCharAt(at, sign); break;
            }
        }
        String told = b.length() > 260 ? b.substring(0, 260) : b.toString();
        feed(Checks.bytes(told));
        int[] args = Arrays.copyOf(ahead, ahead.length + 1);
        args[ahead.length] = random.nextInt(20) == 0 ? number(1, 240) : told.length();
        call(name, args);
    }

    private String items(int open) {
        StringBuilder b = new StringBuilder();
        int many = 1 + random.nextInt(open == 0 ? 4 : 3);
        for (int i = 0; i < many; i++) {
            b.append(i > 0 ? "," : "");
            if (random.nextInt(3) == 0) {
                b.append(2 + random.nextInt(random.nextInt(4) == 0 ? 8 : 3)).append('x');
            }
            if (open < 2 && random.nextInt(4) == 0 || random.nextInt(60) == 0 && open < 4) {
                b.append('(').append(items(open + 1)).append(')');
            } else {
                int most = pick(10, 40, 255, 255, 300);
                b.append(random.nextInt(30) == 0 ? "00" : "").append((random.nextInt(40) == 0 ? 0 : 1) + random.nextInt(most));
            }
        }
        return b.toString();
    }

    private String orders() {
        StringBuilder b = new StringBuilder();
        int many = random.nextInt(12) == 0 ? 19 + random.nextInt(3) : 1 + random.nextInt(5);
        for (int i = 0; i < many; i++) {
            b.append(i > 0 ? ";" : "");
            char letter = "lrsdlr".charAt(random.nextInt(many > 9 ? 2 : 6));
            b.append(letter);
            if ((letter == 'l' || letter == 'r') && random.nextInt(3) == 0 && many < 10) {
                b.append('b').append(number(1, 20)).append(':').append(number(0, 255));
            } else {
                b.append(random.nextInt(4) == 0 ? '-' : '+').append(random.nextInt(pick(10, 100, 100, 1000, 10000)));
            }
        }
        return b.toString();
    }

    private String law() {
        StringBuilder b = new StringBuilder();
        int many = random.nextInt(10) == 0 ? 15 + random.nextInt(3) : 1 + random.nextInt(6);
        for (int i = 0; i < many; i++) {
            b.append(i > 0 ? ";" : "");
            char kind = i < 2 && many > 1 ? "wi".charAt(i) : "wcinx".charAt(random.nextInt(5));
            int room = (240 - b.length()) / (many - i) - 10;
            b.append(kind).append(kind == 'x' ? "" : sum(random.nextInt(4) == 0 ? 3 : 1, room / 2));
            b.append('(').append(condition(random.nextInt(4), room / 2)).append(')');
        }
        return b.toString();
    }

    private String condition(int deep, int room) {
        if (room < 8 || random.nextInt(3) == 0) {
            return random.nextInt(3) == 0 ? "1=1" : sum(0, 0) + "<>=".charAt(random.nextInt(3)) + sum(0, 0);
        }
        StringBuilder b = new StringBuilder();
        int many = 1 + random.nextInt(3);
        for (int i = 0; i < many; i++) {
            b.append(i > 0 ? random.nextBoolean() ? "&" : "|" : "");
            int part = room / many - 2;
            switch (deep > 0 ? random.nextInt(4) : 3) {
                case 0: b.append('!').append(random.nextInt(4) == 0 ? "!" : "").append("1=").append(sum(0, 0)); break;
                case 1: b.append("!(").append(condition(deep - 1, part)).append(')'); break;
                case 2: b.append('(').append(condition(deep - 1, part)).append(')'); break;
                default: b.append(sum(deep, part / 2)).append("<>=".charAt(random.nextInt(3))).append(sum(deep, part / 2));
            }
        }
        return b.toString();
    }

    private String sum(int deep, int room) {
        if (room < 5 || random.nextInt(3) == 0) {
            return random.nextInt(3) > 0 ? "" + "eabghsktr".charAt(random.nextInt(9))
                : "" + random.nextInt(pick(3, 10, 100, 100000));
        }
        StringBuilder b = new StringBuilder();
        int many = 1 + random.nextInt(3);
        for (int i = 0; i < many; i++) {
            b.append(i > 0 ? "" + "+-*/%".charAt(random.nextInt(5)) : "");
            if (deep > 0 && random.nextInt(3) == 0) {
                b.append('[').append(sum(deep - 1, room / many - 3)).append(']');
            } else {
                b.append(sum(0, 0));
            }
        }
        return b.toString();
    }

    private void row(String name, int n, int most, int least, int greatest) {
        int[] bytes = new int[20];
        for (int i = 0; i < 20; i++) {
            bytes[i] = i > most ? 0 : least + random.nextInt(greatest - least + 1);
        }
        feed(bytes);
        if (name.equals("even")) {
            call(name, n, number(0, 1));
        } else {
            call(name, n);
        }
    }

    private void piles() {
        int[] bytes = new int[20];
        int dense = random.nextInt(3);
        for (int i = 0; i < 8; i++) {
            bytes[i] = dense == 0 ? 255 : dense == 1 ? random.nextInt(256) : random.nextInt(256) & random.nextInt(256);
        }
        feed(bytes);
        call("piles", number(1, 60), random.nextBoolean() ? number(1, 60) : number(1, 10), number(0, 1));
    }

    private void lamps() {
        int[] bytes = new int[20];
        int dense = random.nextInt(3);
        for (int i = 0; i < 12; i++) {
            bytes[i] = random.nextInt(4) < dense + 2 ? random.nextInt(256) : 0;
        }
        feed(bytes);
        call("lamps", number(1, 12), number(0, 5), number(0, 1));
    }

    private void claims() {
        int[] bytes = new int[20];
        int most = pick(255, 255, 40);
        for (int i = 0; i < 20; i += 2) {
            int a = random.nextInt(most);
            bytes[i] = a;
            bytes[i + 1] = random.nextInt(40) == 0 ? a : a + 1 + random.nextInt(random.nextInt(3) == 0 ? most - a : Math.min(most - a, 9));
        }
        feed(bytes);
        call("claims", number(1, 10), number(0, 2));
    }

    private void shuffled(int[] into, int from, int n) {
        for (int i = 0; i < n; i++) {
            int j = random.nextInt(i + 1);
            into[from + i] = into[from + j];
            into[from + j] = i;
        }
    }

    private void wed() {
        int n = 1 + random.nextInt(5);
        int[] bytes = new int[60];
        for (int i = 0; i < 2 * n; i++) {
            shuffled(bytes, i * n, n);
        }
        if (random.nextInt(6) == 0) {
            bytes[random.nextInt(2 * n * n)] = random.nextInt(random.nextBoolean() ? 256 : 5);
        }
        feed(bytes);
        call("wed", random.nextInt(9) == 0 ? number(1, 5) : n, number(0, n - 1));
    }

    private void changes() {
        int n = 2 + random.nextInt(5);
        int[] bytes = new int[20];
        shuffled(bytes, 0, n);
        if (random.nextInt(6) == 0) {
            bytes[random.nextInt(n)] = random.nextInt(random.nextBoolean() ? 256 : 6);
        }
        feed(bytes);
        call("changes", random.nextInt(9) == 0 ? number(2, 6) : n);
    }

    private void check() {
        int far = random.nextInt(3);
        int[] bytes = {oracle.call("sideIs", 0, 1), oracle.call("sideIs", 1, 1), oracle.call("count", 3), oracle.call("count", 1)};
        if (far > 0) {
            bytes[random.nextInt(4)] += random.nextInt(2) * random.nextInt(256);
        }
        feed(bytes);
        call("check");
    }

    /** An object is used for at most 512 calls: later ones are not made. */
    private void call(String name, int... a) {
        calls++;
        if (calls > 512) {
            return;
        }
        StringBuilder told = new StringBuilder("run " + run + ", call " + calls + ": " + name);
        told.append(Arrays.toString(a));
        checks.due(told.toString(), answer(name, a), oracle.call(name, a));
    }

    private int answer(String name, int[] a) {
        MiddleBridge x = bridge;
        switch (name) {
            case "tilt": return x.tilt(a[0]) ? 1 : 0;
            case "feed": return x.feed(a[0], a[1], a[2], a[3], a[4]);
            case "law": return x.law(a[0]);
            case "plan": return x.plan(a[0], a[1]);
            case "orders": return x.orders(a[0]);
            case "days": return x.days(a[0]);
            case "tried": return x.tried(a[0], a[1]);
            case "sideIs": return x.sideIs(a[0], a[1]);
            case "archIs": return x.archIs(a[0], a[1], a[2]);
            case "touches": return x.touches(a[0], a[1]);
            case "ahead": return x.ahead(a[0]);
            case "beyond": return x.beyond(a[0], a[1]);
            case "even": return x.even(a[0], a[1]);
            case "inARow": return x.inARow();
            case "ball": return x.ball(a[0], a[1], a[2], a[3], a[4]);
            case "leastSpeed": return x.leastSpeed(a[0], a[1], a[2], a[3]);
            case "piles": return x.piles(a[0], a[1], a[2]);
            case "lamps": return x.lamps(a[0], a[1], a[2]);
            case "claims": return x.claims(a[0], a[1]);
            case "rowed": return x.rowed(a[0]);
            case "wed": return x.wed(a[0], a[1]);
            case "changes": return x.changes(a[0]);
            case "dialect": return x.dialect(a[0], a[1], a[2]);
            case "owed": return x.owed(a[0], a[1]);
            case "seed": return x.seed(a[0]) ? 1 : 0;
            case "keep": return x.keep();
            case "undo": return x.undo() ? 1 : 0;
            case "check": return x.check();
            case "count": return x.count(a[0]);
            default: throw new IllegalArgumentException(name);
        }
    }
}
