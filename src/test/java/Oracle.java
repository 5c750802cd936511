import java.math.BigInteger;
import java.util.ArrayDeque;
import java.util.ArrayList;
import java.util.Arrays;
import java.util.HashMap;
import java.util.List;
import java.util.Map;
import java.util.PriorityQueue;

/** The document told a second time, by slow and plain means, to compare MiddleBridge with. */
final class Oracle {
    private static final class Fault extends RuntimeException {
        private static final long serialVersionUID = 1L;
        final int answer;

        Fault(int number, int place) {
            super(null, null, false, false);
            answer = -1000 * number - place;
        }
    }

    private static final class Refused extends RuntimeException {
        private static final long serialVersionUID = 1L;

        Refused() {
            super(null, null, false, false);
        }
    }

    private interface Sum {
        int of(Map<Character, Integer> letters);
    }

    private record Rule(char kind, Sum amount, Sum test) { }

    private record Mark(int[] laid, int[][] bench, int store, int debt, int day, int fallen, int x) { }

    private List<Integer> tape = new ArrayList<>();
    private final List<List<Integer>> plans = new ArrayList<>(List.of(List.of(), List.of()));
    private List<Rule> rules = List.of();
    private int[] laid = new int[2];
    private int[][] bench = new int[2][21];
    private int store;
    private int debt;
    private int day;
    private int fallen;
    private int x = 1;
    private int tilt = 99999;
    private Mark kept;

    // ---- reading texts

    private String text;
    private int at;

    private char sign() {
        return at < text.length() ? text.charAt(at) : '\uffff';
    }

    private boolean digit() {
        return "0123456789".indexOf(sign()) >= 0;
    }

    private void must(char c) {
        if (sign() != c) {
            throw new Fault(1, at);
        }
        at++;
    }

    private int number(int digits, int least, int most) {
        int start = at;
        if (!digit()) {
            throw new Fault(1, at);
        }
        while (digit()) {
            if (at - start == digits) {
                throw new Fault(2, at);
            }
            at++;
        }
        int value = Integer.parseInt(text.substring(start, at));
        if (value < least || value > most) {
            throw new Fault(3, start);
        }
        return value;
    }

    private boolean take(int n, int least, int most) {
        if (n < least || n > most || n > tape.size()) {
            return false;
        }
        StringBuilder b = new StringBuilder();
        for (int i = 0; i < n; i++) {
            b.append((char) (int) tape.get(i));
        }
        text = b.toString();
        at = 0;
        tape = new ArrayList<>();
        return true;
    }

    private int b(int i) {
        return text.charAt(i);
    }

    private void items(List<Integer> out, int open) {
        while (true) {
            int start = at;
            int times = 1;
            if ("23456789".indexOf(sign()) >= 0 && at + 1 < text.length() && text.charAt(at + 1) == 'x') {
                times = sign() - '0';
                at += 2;
            }
            int before = out.size();
            if (sign() == '(') {
                if (open == 2) {
                    throw new Fault(5, at);
                }
                at++;
                items(out, open + 1);
                must(')');
            } else {
                out.add(number(3, 1, 255));
            }
            List<Integer> once = new ArrayList<>(out.subList(before, out.size()));
            for (int i = 1; i < times; i++) {
                out.addAll(once);
            }
            if (out.size() > 20) {
                throw new Fault(6, start);
            }
            if (sign() != ',') {
                return;
            }
            at++;
        }
    }

    private void end() {
        if (at < text.length()) {
            throw new Fault(1, at);
        }
    }

    private Sum sum(int open) {
        Sum left = product(open);
        while (sign() == '+' || sign() == '-') {
            boolean plus = sign() == '+';
            at++;
            Sum a = left;
            Sum b = product(open);
            left = plus ? l -> a.of(l) + b.of(l) : l -> a.of(l) - b.of(l);
        }
        return left;
    }

    private Sum product(int open) {
        Sum left = factor(open);
        while (sign() == '*' || sign() == '/' || sign() == '%') {
            char op = sign();
            at++;
            Sum a = left;
            Sum b = factor(open);
            left = l -> {
                int p = a.of(l);
                int q = b.of(l);
                if (op == '*') {
                    return p * q;
                }
                if (q == 0) {
                    throw new Refused();
                }
                return op == '/' ? p / q : p % q;
            };
        }
        return left;
    }

    private Sum factor(int open) {
        if (sign() == '[') {
            if (open == 6) {
                throw new Fault(5, at);
            }
            at++;
            Sum inner = sum(open + 1);
            must(']');
            return inner;
        }
        if (digit()) {
            int value = number(5, 0, 99999);
            return l -> value;
        }
        char c = sign();
        if ("eabghsktr".indexOf(c) < 0) {
            throw new Fault(1, at);
        }
        at++;
        return l -> l.get(c);
    }

    private Sum condition(int open) {
        List<List<Sum>> parts = new ArrayList<>();
        do {
            if (!parts.isEmpty()) {
                at++;
            }
            List<Sum> part = new ArrayList<>();
            do {
                if (!part.isEmpty()) {
                    at++;
                }
                part.add(test(open));
            } while (sign() == '&');
            parts.add(part);
        } while (sign() == '|');
        return l -> {
            for (List<Sum> part : parts) {
                boolean all = true;
                for (int i = 0; i < part.size() && all; i++) {
                    all = part.get(i).of(l) != 0;
                }
                if (all) {
                    return 1;
                }
            }
            return 0;
        };
    }

    private Sum test(int open) {
        if (sign() == '!' || sign() == '(') {
            if (open == 6) {
                throw new Fault(5, at);
            }
            boolean not = sign() == '!';
            at++;
            if (not) {
                Sum inner = test(open + 1);
                return l -> 1 - inner.of(l);
            }
            Sum inner = condition(open + 1);
            must(')');
            return inner;
        }
        Sum a = sum(open);
        char op = sign();
        if (op != '<' && op != '>' && op != '=') {
            throw new Fault(1, at);
        }
        at++;
        Sum b = sum(open);
        return l -> {
            int p = a.of(l);
            int q = b.of(l);
            return (op == '<' ? p < q : op == '>' ? p > q : p == q) ? 1 : 0;
        };
    }

    // ---- the bridge

    void feed(int... five) {
        if (tape.size() + 20 > 260) {
            answer = -1;
            return;
        }
        for (int one : five) {
            for (int shift = 24; shift >= 0; shift -= 8) {
                tape.add(one >> shift & 255);
            }
        }
        answer = tape.size();
    }

    private int answer;

    /** What a call answers (a boolean counts 1 or 0). */
    int call(String name, int... a) {
        try {
            return told(name, a);
        } catch (Fault fault) {
            return fault.answer;
        }
    }

    private int told(String name, int[] a) {
        switch (name) {
            case "tilt": return tiltTo(a[0]);
            case "feed": feed(a); return answer;
            case "law": return law(a[0]);
            case "plan": return plan(a[0], a[1]);
            case "orders": return orders(a[0]);
            case "days": return a[0] < 1 || a[0] > 240 ? -1 : go(a[0]);
            case "tried": return tried(a[0], a[1]);
            case "sideIs": return sideIs(a[0], a[1]);
            case "archIs": return archIs(a[0], a[1], a[2]);
            case "touches": return touches(a[0], a[1]);
            case "ahead": return ahead(a[0]);
            case "beyond": return beyond(a[0], a[1]);
            case "even": return even(a[0], a[1]);
            case "inARow": return inARow();
            case "ball": return ball(a[0], a[1], a[2], a[3], a[4]);
            case "leastSpeed": return leastSpeed(a[0], a[1], a[2], a[3]);
            case "piles": return piles(a[0], a[1], a[2]);
            case "lamps": return lamps(a[0], a[1], a[2]);
            case "claims": return claims(a[0], a[1]);
            case "rowed": return rowed(a[0]);
            case "wed": return wed(a[0], a[1]);
            case "changes": return changes(a[0]);
            case "dialect": return dialect(a[0], a[1], a[2]);
            case "owed": return owed(a[0], a[1]);
            case "seed": return seed(a[0]);
            case "keep": kept = mark(); return day;
            case "undo": return undo();
            case "check": return check();
            case "count": return count(a[0]);
            default: throw new IllegalArgumentException(name);
        }
    }

    private int tiltTo(int most) {
        if (most < 0 || most > 99999) {
            return 0;
        }
        tilt = most;
        return 1;
    }

    private int law(int n) {
        if (!take(n, 1, 240)) {
            return -1;
        }
        List<Rule> read = new ArrayList<>();
        do {
            if (!read.isEmpty()) {
                at++;
            }
            char kind = sign();
            if ("wcinx".indexOf(kind) < 0) {
                throw new Fault(1, at);
            }
            if (read.size() == 16) {
                throw new Fault(4, at);
            }
            at++;
            Sum amount = kind == 'x' ? null : sum(0);
            must('(');
            Sum test = condition(1);
            must(')');
            read.add(new Rule(kind, amount, test));
        } while (sign() == ';');
        end();
        rules = read;
        return rules.size();
    }

    private int plan(int side, int n) {
        if (side < 0 || side > 1 || !take(n, 1, 80)) {
            return -1;
        }
        List<Integer> out = new ArrayList<>();
        items(out, 0);
        end();
        plans.set(side, out);
        return out.size();
    }

    private int orders(int n) {
        if (!take(n, 1, 120)) {
            return -1;
        }
        List<Runnable> deeds = new ArrayList<>();
        do {
            if (!deeds.isEmpty()) {
                at++;
            }
            char letter = sign();
            if ("lrsd".indexOf(letter) < 0) {
                throw new Fault(1, at);
            }
            if (deeds.size() == 20) {
                throw new Fault(4, at);
            }
            at++;
            int side = letter == 'l' ? 0 : 1;
            char deed = sign();
            if (deed == 'b' && (letter == 'l' || letter == 'r')) {
                at++;
                int arch = number(4, 1, 20);
                must(':');
                int weight = number(4, 0, 255);
                deeds.add(() -> bench[side][arch] = weight);
            } else if (deed == '+' || deed == '-') {
                at++;
                int much = number(4, 0, 9999) * (deed == '-' ? -1 : 1);
                if (letter == 's') {
                    deeds.add(() -> store = clamp(store + much, 99999));
                } else if (letter == 'd') {
                    deeds.add(() -> debt = clamp(debt + much, 999999));
                } else {
                    deeds.add(() -> laid[side] = clamp(laid[side] + much, 9999));
                }
            } else {
                throw new Fault(1, at);
            }
        } while (sign() == ';');
        end();
        deeds.forEach(Runnable::run);
        return deeds.size();
    }

    private static int clamp(int v, int most) {
        return v < 0 ? 0 : v > most ? most : v;
    }

    private int stand(int side) {
        int rest = laid[side];
        int n = 0;
        for (int stones : plans.get(side)) {
            if (rest < stones) {
                break;
            }
            rest -= stones;
            n++;
        }
        return n;
    }

    private int upTo(int side, int arches) {
        return plans.get(side).subList(0, arches).stream().mapToInt(i -> i).sum();
    }

    private boolean reached(int side) {
        return !plans.get(side).isEmpty() && stand(side) == plans.get(side).size();
    }

    private int needs(int side) {
        return reached(side) || plans.get(side).isEmpty() ? 0 : upTo(side, stand(side) + 1) - laid[side];
    }

    private int weight(int side) {
        int sum = 0;
        for (int i = 1; i <= stand(side); i++) {
            sum += i * plans.get(side).get(i - 1) + i * bench[side][i];
        }
        return sum;
    }

    private int draw() {
        x = (int) ((25173L * x + 13849L) % 65536L);
        return x % 10;
    }

    private Map<Character, Integer> letters(int draw, int side) {
        Map<Character, Integer> l = new HashMap<>();
        boolean none = side < 0;
        l.put('e', none ? 0 : side);
        l.put('a', none ? 0 : stand(side));
        l.put('b', none ? 0 : stand(1 - side));
        l.put('g', none ? 0 : plans.get(side).size() - stand(side));
        l.put('h', none ? 0 : needs(side));
        l.put('s', store);
        l.put('k', debt / 100);
        l.put('t', day % 100);
        l.put('r', draw);
        return l;
    }

    private boolean holds(Rule rule, Map<Character, Integer> l) {
        try {
            return rule.test.of(l) != 0;
        } catch (Refused refused) {
            return false;
        }
    }

    private int amount(char kind, int most, Map<Character, Integer> l) {
        for (Rule rule : rules) {
            if (rule.kind == kind && holds(rule, l)) {
                try {
                    return clamp(rule.amount.of(l), most);
                } catch (Refused refused) {
                    return 0;
                }
            }
        }
        return 0;
    }

    private int go(int n) {
        int sum = 0;
        for (int i = 0; i < n && day < 9999; i++) {
            Map<Character, Integer> l = letters(draw(), -1);
            store = clamp(store + amount('i', 999, l), 99999);
            debt = clamp(debt + amount('n', 9999, l), 999999);
            sum += work(0) + work(1);
            int apart = weight(0) - weight(1);
            if (Math.abs(apart) > tilt) {
                int heavy = apart > 0 ? 0 : 1;
                laid[heavy] = upTo(heavy, stand(heavy) - 1);
                fallen++;
            }
            day++;
        }
        return sum;
    }

    /** Stone by stone, which asks of each one whether it would end an ARCH that waits. */
    private int work(int side) {
        if (reached(side)) {
            return 0;
        }
        Map<Character, Integer> l = letters(draw(), side);
        for (Rule rule : rules) {
            if (rule.kind == 'x' && holds(rule, l)) {
                return 0;
            }
        }
        int many = amount('w', 99, l);
        int pence = amount('c', 99, l);
        int put = 0;
        for (int i = 0; i < many; i++) {
            if (store == 0 || reached(side) || plans.get(side).isEmpty()) {
                break;
            }
            boolean othersBuild = stand(1 - side) < plans.get(1 - side).size();
            boolean waits = stand(side) + 1 - stand(1 - side) > 1;
            if (othersBuild && waits && needs(side) == 1) {
                break;
            }
            store--;
            laid[side]++;
            debt = clamp(debt + pence, 999999);
            put++;
        }
        return put;
    }

    private Mark mark() {
        int[][] b = {bench[0].clone(), bench[1].clone()};
        return new Mark(laid.clone(), b, store, debt, day, fallen, x);
    }

    private void back(Mark m) {
        laid = m.laid.clone();
        bench = new int[][] {m.bench[0].clone(), m.bench[1].clone()};
        store = m.store;
        debt = m.debt;
        day = m.day;
        fallen = m.fallen;
        x = m.x;
    }

    private int undo() {
        if (kept == null) {
            return 0;
        }
        back(kept);
        return 1;
    }

    private int tried(int n, int what) {
        if (n < 1 || n > 240 || what < 0 || what > 3 && what != 10 && what != 11) {
            return -1;
        }
        Mark m = mark();
        int sum = go(n);
        int[] all = {sum, fallen - m.fallen, debt, store};
        int told = what < 4 ? all[what] : stand(what - 10);
        back(m);
        return told;
    }

    private int sideIs(int side, int what) {
        if (side < 0 || side > 1 || what < 0 || what > 6) {
            return -1;
        }
        int[] all = {plans.get(side).size(), stand(side), laid[side], needs(side), weight(side),
            reached(side) ? 1 : 0, upTo(side, plans.get(side).size())};
        return all[what];
    }

    private int archIs(int side, int i, int what) {
        if (side < 0 || side > 1 || i < 1 || i > plans.get(side).size() || what < 0 || what > 2) {
            return -1;
        }
        int[] all = {plans.get(side).get(i - 1), i <= stand(side) ? 1 : 0, bench[side][i]};
        return all[what];
    }

    private int touches(int n, int what) {
        if (n < 1 || n > 240 || what < 0 || what > 1) {
            return -1;
        }
        Mark m = mark();
        int told = -2;
        for (int behind = 0; behind <= n; behind++) {
            if (behind > 0) {
                go(1);
            }
            if (reached(0) || reached(1)) {
                told = what == 0 ? behind : reached(0) ? reached(1) ? 2 : 0 : 1;
                break;
            }
        }
        back(m);
        return told;
    }

    private int ahead(int n) {
        if (n < 1 || n > 240) {
            return -1;
        }
        Mark m = mark();
        int most = Math.abs(stand(0) - stand(1));
        for (int i = 0; i < n; i++) {
            go(1);
            most = Math.max(most, Math.abs(stand(0) - stand(1)));
        }
        back(m);
        return most;
    }

    private int beyond(int n, int sum) {
        if (n < 1 || n > 240 || sum < 0 || sum > 999999) {
            return -1;
        }
        Mark m = mark();
        int told = debt > sum ? 0 : -2;
        for (int i = 1; i <= n && told == -2; i++) {
            go(1);
            told = debt > sum ? i : -2;
        }
        back(m);
        return told;
    }

    private int even(int n, int what) {
        if (what < 0 || what > 1 || !take(n, 1, 8)) {
            return -1;
        }
        if (stand(0) == 0 || stand(1) == 0) {
            return -2;
        }
        if (text.indexOf(0) >= 0) {
            return -3;
        }
        int all = (int) Math.pow(3, n);
        int least = Integer.MAX_VALUE;
        int fewest = 0;
        for (int code = 0; code < all; code++) {
            int left = weight(0);
            int right = weight(1);
            int used = 0;
            for (int i = 0, rest = code; i < n; i++, rest /= 3) {
                left += rest % 3 == 1 ? b(i) * stand(0) : 0;
                right += rest % 3 == 2 ? b(i) * stand(1) : 0;
                used += rest % 3 > 0 ? 1 : 0;
            }
            int apart = Math.abs(left - right);
            if (apart < least || apart == least && used < fewest) {
                least = apart;
                fewest = used;
            }
        }
        return what == 0 ? least : fewest;
    }

    private int inARow() {
        Map<Integer, BigInteger> known = new HashMap<>();
        BigInteger all = paths(stand(0), stand(1), known);
        return all.min(BigInteger.valueOf(1000000000)).intValue();
    }

    private BigInteger paths(int a, int b, Map<Integer, BigInteger> known) {
        int mostA = plans.get(0).size();
        int mostB = plans.get(1).size();
        if (a == mostA && b == mostB) {
            return BigInteger.ONE;
        }
        BigInteger have = known.get(a * 100 + b);
        if (have != null) {
            return have;
        }
        BigInteger sum = BigInteger.ZERO;
        for (int side = 0; side < 2; side++) {
            int p = a + 1 - side;
            int q = b + side;
            if (p > mostA || q > mostB) {
                continue;
            }
            boolean leftBehind = p < mostA && q > p + 1;
            boolean rightBehind = q < mostB && p > q + 1;
            if (!leftBehind && !rightBehind) {
                sum = sum.add(paths(p, q, known));
            }
        }
        known.put(a * 100 + b, sum);
        return sum;
    }

    private static boolean in(int v, int least, int most) {
        return v >= least && v <= most;
    }

    private int ball(int gap, int rail, int height, int on, int up) {
        if (!in(gap, 1, 200) || !in(rail, 0, 99) || !in(height, 0, 99) || !in(on, 1, 20) || !in(up, 0, 20)) {
            return -1;
        }
        int moments = (gap + on - 1) / on;
        for (int m = 1; m < moments; m++) {
            if (height + m * up - m * (m - 1) / 2 < 0) {
                return 0;
            }
        }
        return height + moments * up - moments * (moments - 1) / 2 >= rail ? 1 : 0;
    }

    private int leastSpeed(int gap, int rail, int height, int up) {
        for (int on = 1; on <= 20; on++) {
            int told = ball(gap, rail, height, on, up);
            if (told != 0) {
                return told < 0 ? -1 : on;
            }
        }
        return -2;
    }

    private int piles(int length, int span, int what) {
        if (!in(length, 1, 60) || !in(span, 1, 60) || !in(what, 0, 1) || !take(8, 8, 8)) {
            return -1;
        }
        boolean[] reach = new boolean[61];
        reach[0] = true;
        for (int many = 0; many <= 60; many++) {
            for (int p = 0; p < length; p++) {
                if (reach[p] && length - p <= span) {
                    return what == 0 ? many : p;
                }
            }
            boolean[] next = new boolean[61];
            for (int p = 0; p < length; p++) {
                for (int q = p + 1; reach[p] && q < length && q <= p + span; q++) {
                    next[q] |= (b(q / 8) & 1 << q % 8) != 0;
                }
            }
            reach = next;
        }
        return -2;
    }

    private int lamps(int n, int far, int what) {
        if (!in(far, 0, 5) || !in(what, 0, 1) || !take(n, 1, 12)) {
            return -1;
        }
        int best = -1;
        for (int bits = 0; bits < 1 << n; bits++) {
            boolean good = true;
            for (int i = 0; i < n; i++) {
                boolean lit = false;
                for (int j = 0; j < n; j++) {
                    boolean lamp = (bits & 1 << j) != 0;
                    good &= !lamp || b(j) != 0;
                    lit |= lamp && Math.abs(i - j) <= far;
                }
                good &= lit;
            }
            if (good && (best < 0 || Integer.bitCount(bits) < Integer.bitCount(best))) {
                best = bits;
            }
        }
        return best < 0 ? -2 : what == 0 ? Integer.bitCount(best) : best;
    }

    private int claims(int n, int what) {
        if (!in(n, 1, 10) || !in(what, 0, 2) || !take(2 * n, 2, 20)) {
            return -1;
        }
        int[][] cells = new int[2][256];
        int low = 255;
        int high = 0;
        for (int i = 0; i < n; i++) {
            if (b(2 * i) >= b(2 * i + 1)) {
                return -2;
            }
            low = Math.min(low, b(2 * i));
            high = Math.max(high, b(2 * i + 1));
            for (int p = b(2 * i); p < b(2 * i + 1); p++) {
                cells[i % 2][p]++;
            }
        }
        int both = 0;
        int nobody = 0;
        int most = 0;
        for (int p = low; p < high; p++) {
            both += Math.min(1, cells[0][p]) * Math.min(1, cells[1][p]);
            nobody += cells[0][p] + cells[1][p] == 0 ? 1 : 0;
            most = Math.max(most, cells[0][p] + cells[1][p]);
        }
        return new int[] {both, nobody, most}[what];
    }

    /** The shortest way through all that can stand on both banks. */
    private int rowed(int n) {
        if (!take(n, 1, 10)) {
            return -1;
        }
        int all = (1 << n) - 1;
        int[] least = new int[2 << n];
        Arrays.fill(least, Integer.MAX_VALUE);
        PriorityQueue<int[]> open = new PriorityQueue<>((p, q) -> Integer.compare(p[0], q[0]));
        open.add(new int[] {0, all * 2});
        least[all * 2] = 0;
        while (!open.isEmpty()) {
            int[] one = open.poll();
            int here = one[1] / 2;
            int over = one[1] % 2;
            if (here == 0) {
                return one[0];
            }
            if (one[0] > least[one[1]]) {
                continue;
            }
            int bank = over == 0 ? here : all & ~here;
            for (int i = 0; i < n; i++) {
                for (int j = i; j < n; j++) {
                    int boat = 1 << i | 1 << j;
                    if ((bank & boat) == boat) {
                        int state = (here ^ boat) * 2 + 1 - over;
                        int cost = one[0] + Math.max(b(i), b(j));
                        if (cost < least[state]) {
                            least[state] = cost;
                            open.add(new int[] {cost, state});
                        }
                    }
                }
            }
        }
        throw new IllegalStateException();
    }

    private boolean row(int from, int n) {
        for (int v = 0; v < n; v++) {
            int many = 0;
            for (int i = 0; i < n; i++) {
                many += b(from + i) == v ? 1 : 0;
            }
            if (many != 1) {
                return false;
            }
        }
        return true;
    }

    /** Of all stable weddings that in which the left one has the best that he has in any. */
    private int wed(int n, int what) {
        if (!in(n, 1, 5) || !in(what, 0, n - 1) || !take(2 * n * n, 2, 50)) {
            return -1;
        }
        for (int r = 0; r < 2 * n; r++) {
            if (!row(r * n, n)) {
                return -2;
            }
        }
        int[] best = {n};
        stable(new int[n], 0, n, what, best);
        return b(what * n + best[0]);
    }

    private int rank(int from, int n, int one) {
        for (int i = 0; i < n; i++) {
            if (b(from + i) == one) {
                return i;
            }
        }
        throw new IllegalStateException();
    }

    private void stable(int[] wife, int man, int n, int what, int[] best) {
        if (man < n) {
            for (int w = 0; w < n; w++) {
                boolean free = true;
                for (int m = 0; m < man; m++) {
                    free &= wife[m] != w;
                }
                if (free) {
                    wife[man] = w;
                    stable(wife, man + 1, n, what, best);
                }
            }
            return;
        }
        for (int m = 0; m < n; m++) {
            for (int other = 0; other < n; other++) {
                int w = wife[other];
                if (rank(m * n, n, w) < rank(m * n, n, wife[m])
                    && rank(n * n + w * n, n, m) < rank(n * n + w * n, n, other)) {
                    return;
                }
            }
        }
        best[0] = Math.min(best[0], rank(what * n, n, wife[what]));
    }

    private int changes(int n) {
        if (!in(n, 2, 6) || !take(n, 2, 6)) {
            return -1;
        }
        if (!row(0, n)) {
            return -2;
        }
        String rounds = "\0\1\2\3\4\5".substring(0, n);
        Map<String, Integer> known = new HashMap<>(Map.of(rounds, 0));
        ArrayDeque<String> open = new ArrayDeque<>(List.of(rounds));
        while (!known.containsKey(text)) {
            String one = open.poll();
            List<String> next = new ArrayList<>();
            rung(one, "", next);
            for (String r : next) {
                if (known.putIfAbsent(r, known.get(one) + 1) == null) {
                    open.add(r);
                }
            }
        }
        return known.get(text);
    }

    private void rung(String rest, String done, List<String> out) {
        if (rest.length() < 2) {
            out.add(done + rest);
            return;
        }
        rung(rest.substring(1), done + rest.charAt(0), out);
        rung(rest.substring(2), done + rest.charAt(1) + rest.charAt(0), out);
    }

    private int dialect(int n, int k, int what) {
        if (!in(n, 1, 8) || !in(k, 0, 8) || !in(what, 0, 1)) {
            return -1;
        }
        int many = 0;
        int least = -2;
        for (int bits = (1 << n) - 1; bits >= 0; bits--) {
            String words = Integer.toBinaryString(1 << n | bits).substring(1);
            if (!words.contains("0".repeat(k + 1)) && !words.contains("1".repeat(k + 1))) {
                many++;
                least = bits;
            }
        }
        return what == 0 ? many : least;
    }

    private int owed(int payment, int hundredths) {
        if (!in(payment, 1, 99999) || !in(hundredths, 0, 50)) {
            return -1;
        }
        BigInteger rest = BigInteger.valueOf(debt);
        BigInteger hundred = BigInteger.valueOf(100);
        for (int years = 0; years <= 200; years++) {
            if (rest.signum() <= 0) {
                return years;
            }
            BigInteger[] more = rest.multiply(BigInteger.valueOf(hundredths)).divideAndRemainder(hundred);
            rest = rest.add(more[0]).add(BigInteger.valueOf(more[1].signum() - payment));
        }
        return -2;
    }

    private int seed(int to) {
        if (!in(to, 0, 65535)) {
            return 0;
        }
        x = to;
        return 1;
    }

    private int check() {
        if (!take(4, 4, 4)) {
            return -2;
        }
        int[] all = {stand(0), stand(1), fallen, store};
        for (int i = 0; i < 4; i++) {
            if (b(i) != all[i] % 256) {
                return i;
            }
        }
        return -1;
    }

    private int count(int what) {
        int[] all = {day, store, debt, fallen, tilt, rules.size(), tape.size(), x,
            Math.abs(weight(0) - weight(1))};
        return what < 0 || what >= all.length ? -1 : all[what];
    }
}
