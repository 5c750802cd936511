/** A bridge that is begun in mid stream and built towards both banks. */
public final class MiddleBridge {
    public static final int NONE = -1;

    private static final int LEFT = 0;
    private static final int RIGHT = 1;
    private static final int BOTH = 2;

    private static final int NOT_POSSIBLE = -2;
    private static final int NO_WEIGHT = -3;

    private static final int MOST_TAPE = 260;
    private static final int FED_AT_ONCE = 20;
    private static final int MOST_LAW_TEXT = 240;
    private static final int MOST_PLAN_TEXT = 80;
    private static final int MOST_ORDERS_TEXT = 120;

    private static final int MOST_ARCHES = 20;
    private static final int MOST_STONES = 255;
    private static final int MOST_BENCH = 255;
    private static final int MOST_LAID = 9999;
    private static final int MOST_STORE = 99999;
    private static final int MOST_DEBT = 999999;
    private static final int MOST_TILT = 99999;
    private static final int MOST_DAY = 9999;
    private static final int MOST_DAYS_ASKED = 240;
    private static final int MOST_LINES = 20;
    private static final int MOST_RULES = 16;
    private static final int MOST_DRAW = 65535;
    private static final int MOST_BYTE = 255;

    private static final int CANNOT_STAND = 1;
    private static final int DIGIT_TOO_MANY = 2;
    private static final int WRONG_NUMBER = 3;
    private static final int ONE_TOO_MANY = 4;
    private static final int TOO_DEEP = 5;
    private static final int TOO_MANY_ARCHES = 6;

    private final int[] tape = new int[MOST_TAPE];
    private int tapeLength;
    private final Text text = new Text();
    private final PlanReader planReader = new PlanReader();
    private final OrdersReader ordersReader = new OrdersReader();
    private final LawReader lawReader = new LawReader();
    private final Works works = new Works();
    private final State kept = new State();
    private final State saved = new State();
    private final Bell bell = new Bell();
    private final Puzzles puzzles = new Puzzles();
    private boolean wasKept;

    public MiddleBridge() {
        tapeLength = 0;
        wasKept = false;
    }

    public boolean tilt(int most) {
        if (!within(most, 0, MOST_TILT)) {
            return false;
        }
        works.most = most;
        return true;
    }

    public int feed(int a, int b, int c, int d, int e) {
        if (tapeLength + FED_AT_ONCE > MOST_TAPE) {
            return NONE;
        }
        addBytes(a);
        addBytes(b);
        addBytes(c);
        addBytes(d);
        addBytes(e);
        return tapeLength;
    }

    public int law(int n) {
        if (!take(n, MOST_LAW_TEXT)) {
            return NONE;
        }
        lawReader.readAll(text);
        if (!text.sound()) {
            return text.fault;
        }
        works.rules = lawReader.exchange(works.rules);
        return works.rules.size;
    }

    public int plan(int side, int n) {
        if (!within(side, LEFT, RIGHT) || !take(n, MOST_PLAN_TEXT)) {
            return NONE;
        }
        planReader.readAll(text);
        if (!text.sound()) {
            return text.fault;
        }
        works.built(side).renew(planReader.stones, planReader.arches);
        return planReader.arches;
    }

    public int orders(int n) {
        if (!take(n, MOST_ORDERS_TEXT)) {
            return NONE;
        }
        ordersReader.readAll(text);
        if (!text.sound()) {
            return text.fault;
        }
        ordersReader.obey(works.now);
        return ordersReader.lines;
    }

    public int days(int n) {
        if (!within(n, 1, MOST_DAYS_ASKED)) {
            return NONE;
        }
        return works.passDays(n);
    }

    public int tried(int n, int what) {
        if (!within(n, 1, MOST_DAYS_ASKED) || !(within(what, 0, 3) || within(what, 10, 11))) {
            return NONE;
        }
        saved.copy(works.now);
        int laid = works.passDays(n);
        int answer = triedIs(what, laid);
        works.now.copy(saved);
        return answer;
    }

    public int sideIs(int side, int what) {
        if (!within(side, LEFT, RIGHT)) {
            return NONE;
        }
        switch (what) {
            case 0: return works.built(side).arches;
            case 1: return works.standing(side);
            case 2: return works.now.laidOn(side);
            case 3: return works.lacking(side);
            case 4: return works.weight(side);
            case 5: return works.reached(side) ? 1 : 0;
            case 6: return works.built(side).whole();
            default: return NONE;
        }
    }

    public int archIs(int side, int i, int what) {
        if (!within(side, LEFT, RIGHT) || !within(i, 1, works.built(side).arches)) {
            return NONE;
        }
        switch (what) {
            case 0: return works.built(side).stonesOf(i);
            case 1: return i <= works.standing(side) ? 1 : 0;
            case 2: return works.now.benchAt(side, i);
            default: return NONE;
        }
    }

    public int touches(int n, int what) {
        if (!within(n, 1, MOST_DAYS_ASKED) || !within(what, 0, 1)) {
            return NONE;
        }
        saved.copy(works.now);
        int behind = works.daysTillBank(n);
        int answer = what == 0 || behind < 0 ? behind : works.sideAtBank();
        works.now.copy(saved);
        return answer;
    }

    public int ahead(int n) {
        if (!within(n, 1, MOST_DAYS_ASKED)) {
            return NONE;
        }
        saved.copy(works.now);
        int most = works.mostAhead(n);
        works.now.copy(saved);
        return most;
    }

    public int beyond(int n, int sum) {
        if (!within(n, 1, MOST_DAYS_ASKED) || !within(sum, 0, MOST_DEBT)) {
            return NONE;
        }
        saved.copy(works.now);
        int behind = works.daysTillDebt(n, sum);
        works.now.copy(saved);
        return behind;
    }

    public int even(int n, int what) {
        if (!within(what, 0, 1) || !take(n, 8)) {
            return NONE;
        }
        int left = works.standing(LEFT);
        int right = works.standing(RIGHT);
        if (left == 0 || right == 0) {
            return NOT_POSSIBLE;
        }
        for (int i = 0; i < n; i++) {
            if (text.at(i) == 0) {
                return NO_WEIGHT;
            }
        }
        int apart = works.weight(LEFT) - works.weight(RIGHT);
        int best = Puzzles.evenest(text, 0, left, right, apart, 0);
        return what == 0 ? best / Puzzles.BENCH_STEP : best % Puzzles.BENCH_STEP;
    }

    public int inARow() {
        return puzzles.ordersOfBuilding(works);
    }

    public int ball(int gap, int rail, int height, int on, int up) {
        if (!throwable(gap, rail, height, up) || !within(on, 1, 20)) {
            return NONE;
        }
        return Puzzles.fliesOver(gap, rail, height, on, up) ? 1 : 0;
    }

    public int leastSpeed(int gap, int rail, int height, int up) {
        if (!throwable(gap, rail, height, up)) {
            return NONE;
        }
        for (int on = 1; on <= 20; on++) {
            if (Puzzles.fliesOver(gap, rail, height, on, up)) {
                return on;
            }
        }
        return NOT_POSSIBLE;
    }

    public int piles(int length, int span, int what) {
        if (!within(length, 1, 60) || !within(span, 1, 60) || !within(what, 0, 1) || !take(8, 8)) {
            return NONE;
        }
        int last = puzzles.lastPile(text, length, span);
        if (last < 0) {
            return NOT_POSSIBLE;
        }
        return what == 0 ? puzzles.pilesUpTo(last) : last;
    }

    public int lamps(int n, int far, int what) {
        if (!within(far, 0, 5) || !within(what, 0, 1) || !take(n, 12)) {
            return NONE;
        }
        int bits = Puzzles.fewestLamps(text, n, far);
        if (bits < 0) {
            return NOT_POSSIBLE;
        }
        return what == 0 ? Integer.bitCount(bits) : bits;
    }

    public int claims(int n, int what) {
        if (!within(n, 1, 10) || !within(what, 0, 2) || !take(2 * n, 20)) {
            return NONE;
        }
        for (int i = 0; i < n; i++) {
            if (text.at(2 * i) >= text.at(2 * i + 1)) {
                return NOT_POSSIBLE;
            }
        }
        return Puzzles.claimed(text, n, what);
    }

    public int rowed(int n) {
        if (!take(n, 10)) {
            return NONE;
        }
        return puzzles.leastMinutes(text, n);
    }

    public int wed(int n, int what) {
        if (!within(n, 1, 5) || !within(what, 0, n - 1) || !take(2 * n * n, 50)) {
            return NONE;
        }
        for (int row = 0; row < 2 * n; row++) {
            if (!text.tellsEachOnce(row * n, n)) {
                return NOT_POSSIBLE;
            }
        }
        return puzzles.weds(text, n, what);
    }

    public int changes(int n) {
        if (!within(n, 2, 6) || !take(n, 6)) {
            return NONE;
        }
        if (!text.tellsEachOnce(0, n)) {
            return NOT_POSSIBLE;
        }
        return bell.fewestChanges(text, n);
    }

    public int dialect(int n, int k, int what) {
        if (!within(n, 1, 8) || !within(k, 0, 8) || !within(what, 0, 1)) {
            return NONE;
        }
        return what == 0 ? Puzzles.mixtures(n, k) : Puzzles.leastMixture(n, k);
    }

    public int owed(int payment, int hundredths) {
        if (!within(payment, 1, 99999) || !within(hundredths, 0, 50)) {
            return NONE;
        }
        return Puzzles.yearsTillPaid(works.now.debt, payment, hundredths);
    }

    public boolean seed(int x) {
        if (!within(x, 0, MOST_DRAW)) {
            return false;
        }
        works.now.drawn = x;
        return true;
    }

    public int keep() {
        kept.copy(works.now);
        wasKept = true;
        return works.now.day;
    }

    public boolean undo() {
        if (!wasKept) {
            return false;
        }
        works.now.copy(kept);
        return true;
    }

    public int check() {
        if (!take(4, 4)) {
            return NOT_POSSIBLE;
        }
        for (int i = 0; i < 4; i++) {
            if (text.at(i) != checkedIs(i) % 256) {
                return i;
            }
        }
        return NONE;
    }

    public int count(int what) {
        switch (what) {
            case 0: return works.now.day;
            case 1: return works.now.store;
            case 2: return works.now.debt;
            case 3: return works.now.fallen;
            case 4: return works.most;
            case 5: return works.rules.size;
            case 6: return tapeLength;
            case 7: return works.now.drawn;
            case 8: return Math.abs(works.weight(LEFT) - works.weight(RIGHT));
            default: return NONE;
        }
    }

    private int triedIs(int what, int laid) {
        switch (what) {
            case 0: return laid;
            case 1: return works.now.fallen - saved.fallen;
            case 2: return works.now.debt;
            case 3: return works.now.store;
            default: return works.standing(what - 10);
        }
    }

    private int checkedIs(int i) {
        switch (i) {
            case 0: return works.standing(LEFT);
            case 1: return works.standing(RIGHT);
            case 2: return works.now.fallen;
            default: return works.now.store;
        }
    }

    private void addBytes(int four) {
        for (int shift = 24; shift >= 0; shift -= 8) {
            put(tape, tapeLength, (four >>> shift) & MOST_BYTE);
            tapeLength++;
        }
    }

    /** Moves the first n bytes of the tape into the text; the tape stays where they can't be had. */
    private boolean take(int n, int most) {
        if (!within(n, 1, most) || n > tapeLength) {
            return false;
        }
        text.begin(tape, n);
        tapeLength = 0;
        return true;
    }

    private static boolean throwable(int gap, int rail, int height, int up) {
        return within(gap, 1, 200) && within(rail, 0, 99) && within(height, 0, 99) && within(up, 0, 20);
    }

    private static boolean within(int number, int least, int most) {
        return number >= least && number <= most;
    }

    private static int get(int[] row, int i) {
        return i >= 0 && i < row.length ? row[i] : 0;
    }

    private static void put(int[] row, int i, int value) {
        if (i >= 0 && i < row.length) {
            row[i] = value;
        }
    }

    /** Bytes that were taken from the tape, and the first FAULT that was found in them. */
    private static final class Text {
        private static final int END = -1;

        private final int[] bytes = new int[MOST_LAW_TEXT];
        private int length;
        private int place;
        private int fault;

        private void begin(int[] from, int n) {
            length = Math.max(0, Math.min(n, Math.min(from.length, bytes.length)));
            System.arraycopy(from, 0, bytes, 0, length);
            place = 0;
            fault = 0;
        }

        private int at(int i) {
            return i >= 0 && i < length && i < bytes.length ? bytes[i] : END;
        }

        private int sign() {
            return at(place);
        }

        private boolean sound() {
            return fault == 0;
        }

        private boolean digit() {
            int sign = at(place);
            return sign >= '0' && sign <= '9';
        }

        private void refuse(int number, int where) {
            if (fault == 0) {
                fault = -1000 * number - where;
            }
        }

        /** Steps over the sign that must stand here. */
        private void pass(int wanted) {
            if (sound() && sign() == wanted) {
                place++;
            } else {
                refuse(CANNOT_STAND, place);
            }
        }

        /** Steps over one of these signs and tells it; 0 where none of them stands. */
        private int either(int a, int b, int c) {
            int sign = at(place);
            if (!sound() || sign != a && sign != b && sign != c) {
                return 0;
            }
            place++;
            return sign;
        }

        private boolean goesOn(int separator) {
            return either(separator, separator, separator) != 0;
        }

        private void mustEnd() {
            if (place < length) {
                refuse(CANNOT_STAND, place);
            }
        }

        private int readNumber(int most) {
            if (!digit()) {
                refuse(CANNOT_STAND, place);
                return 0;
            }
            int number = 0;
            for (int digits = 0; digits < most && digit(); digits++) {
                number = number * 10 + at(place) - '0';
                place++;
            }
            if (digit()) {
                refuse(DIGIT_TOO_MANY, place);
            }
            return number;
        }

        private int readBounded(int digits, int least, int most) {
            int start = place;
            int number = readNumber(digits);
            if (!within(number, least, most)) {
                refuse(WRONG_NUMBER, start);
            }
            return number;
        }

        private boolean tellsEachOnce(int from, int n) {
            int seen = 0;
            for (int i = 0; i < n; i++) {
                int one = at(from + i);
                if (!within(one, 0, n - 1) || (seen >> one & 1) != 0) {
                    return false;
                }
                seen |= 1 << one;
            }
            return true;
        }
    }

    /** The PLAN of one side. */
    private static final class Plan {
        // STONES of the first ARCHES together, so that no question adds them up again
        private final int[] sums = new int[MOST_ARCHES + 1];
        private int arches;

        private void renew(int[] stones, int n) {
            arches = Math.max(0, Math.min(n, MOST_ARCHES));
            for (int arch = 1; arch <= arches; arch++) {
                put(sums, arch, get(sums, arch - 1) + get(stones, arch - 1));
            }
        }

        private int stonesOf(int arch) {
            return get(sums, arch) - get(sums, arch - 1);
        }

        private int stonesUpTo(int arch) {
            return get(sums, arch);
        }

        private int whole() {
            return get(sums, arches);
        }

        private int standingBy(int laid) {
            for (int arch = 1; arch <= arches && arch < sums.length; arch++) {
                if (sums[arch] > laid) {
                    return arch - 1;
                }
            }
            return arches;
        }
    }

    /** What is KEPT and UNDONE. */
    private static final class State {
        private int laidLeft;
        private int laidRight;
        private final int[] benches = new int[2 * MOST_ARCHES];
        private int store;
        private int debt;
        private int day;
        private int fallen;
        private int drawn = 1;

        private void copy(State other) {
            laidLeft = other.laidLeft;
            laidRight = other.laidRight;
            System.arraycopy(other.benches, 0, benches, 0, 2 * MOST_ARCHES);
            store = other.store;
            debt = other.debt;
            day = other.day;
            fallen = other.fallen;
            drawn = other.drawn;
        }

        private int laidOn(int side) {
            return side == LEFT ? laidLeft : laidRight;
        }

        private void setLaid(int side, int stones) {
            if (side == LEFT) {
                laidLeft = stones;
            } else {
                laidRight = stones;
            }
        }

        private void lay(int side, int stones) {
            setLaid(side, bounded(laidOn(side) + stones, MOST_LAID));
        }

        private int benchAt(int side, int arch) {
            return get(benches, side * MOST_ARCHES + arch - 1);
        }

        private void putBench(int side, int arch, int weight) {
            put(benches, side * MOST_ARCHES + arch - 1, weight);
        }

        private void addStore(int stones) {
            store = bounded(store + stones, MOST_STORE);
        }

        private void addDebt(int pence) {
            debt = bounded(debt + pence, MOST_DEBT);
        }

        private int nextDraw() {
            drawn = (25173 * drawn + 13849) % 65536;
            return drawn % 10;
        }

        private static int bounded(int number, int most) {
            return Math.max(0, Math.min(number, most));
        }
    }

    /** Reads the ARCHES of a PLAN out of a text. */
    private static final class PlanReader {
        private static final int MOST_OPEN = 2;

        private final int[] stones = new int[MOST_ARCHES];
        private int arches;

        private void readAll(Text text) {
            arches = 0;
            readItems(text, 0);
            text.mustEnd();
        }

        private void readItems(Text text, int open) {
            readItem(text, open);
            for (int i = 0; i < MOST_PLAN_TEXT && text.goesOn(','); i++) {
                readItem(text, open);
            }
        }

        private void readItem(Text text, int open) {
            int start = text.place;
            int before = arches;
            int times = readTimes(text);
            if (text.sign() == '(') {
                readGroup(text, open);
            } else {
                addArch(text.readBounded(3, 1, MOST_STONES));
            }
            if (text.sound()) {
                repeat(before, times);
            }
            if (arches > MOST_ARCHES) {
                text.refuse(TOO_MANY_ARCHES, start);
            }
        }

        private int readTimes(Text text) {
            int digit = text.sign();
            if (!within(digit, '2', '9') || text.at(text.place + 1) != 'x') {
                return 1;
            }
            text.place += 2;
            return digit - '0';
        }

        private void readGroup(Text text, int open) {
            if (open >= MOST_OPEN) {
                text.refuse(TOO_DEEP, text.place);
                return;
            }
            text.pass('(');
            readItems(text, open + 1);
            text.pass(')');
        }

        private void repeat(int before, int times) {
            int end = arches;
            for (int time = 1; time < times; time++) {
                for (int i = before; i < end; i++) {
                    addArch(get(stones, i));
                }
            }
        }

        // counts beyond the row too: that is how too many are seen
        private void addArch(int many) {
            put(stones, arches, many);
            arches++;
        }
    }

    /** Reads the LINES of ORDERS out of a text and does what they say. */
    private static final class OrdersReader {
        private final int[] letters = new int[MOST_LINES];
        private final int[] deeds = new int[MOST_LINES];
        private final int[] arches = new int[MOST_LINES];
        private final int[] numbers = new int[MOST_LINES];
        private int lines;

        private void readAll(Text text) {
            lines = 0;
            readLine(text);
            for (int i = 0; i < MOST_ORDERS_TEXT && text.goesOn(';'); i++) {
                readLine(text);
            }
            text.mustEnd();
        }

        private void readLine(Text text) {
            int letter = text.sign();
            boolean ofSide = letter == 'l' || letter == 'r';
            if (!ofSide && letter != 's' && letter != 'd') {
                text.refuse(CANNOT_STAND, text.place);
                return;
            }
            if (lines >= MOST_LINES) {
                text.refuse(ONE_TOO_MANY, text.place);
                return;
            }
            text.place++;
            put(letters, lines, letter);
            readDeed(text, ofSide);
            lines++;
        }

        private void readDeed(Text text, boolean ofSide) {
            int deed = text.either('+', '-', ofSide ? 'b' : '-');
            put(deeds, lines, deed);
            if (deed == 0) {
                text.refuse(CANNOT_STAND, text.place);
            } else if (deed == 'b') {
                put(arches, lines, text.readBounded(4, 1, MOST_ARCHES));
                text.pass(':');
                put(numbers, lines, text.readBounded(4, 0, MOST_BENCH));
            } else {
                put(numbers, lines, text.readNumber(4));
            }
        }

        private void obey(State state) {
            for (int line = 0; line < lines; line++) {
                int letter = get(letters, line);
                int side = letter == 'r' ? RIGHT : LEFT;
                int number = get(numbers, line);
                int change = get(deeds, line) == '-' ? -number : number;
                if (get(deeds, line) == 'b') {
                    state.putBench(side, get(arches, line), number);
                } else if (letter == 's') {
                    state.addStore(change);
                } else if (letter == 'd') {
                    state.addDebt(change);
                } else {
                    state.lay(side, change);
                }
            }
        }
    }

    /** THE LAW as steps of a reckoning on a heap of numbers, a step named by its sign. */
    private static final class Law {
        private static final int NUMBER = '0';
        private static final int LETTER = 'a';
        private static final int MOST_HEAP = 24;

        private final int[] kinds = new int[MOST_RULES];
        private final int[] amountAt = new int[MOST_RULES];
        private final int[] testAt = new int[MOST_RULES];
        private final int[] endAt = new int[MOST_RULES];
        private final int[] signs = new int[MOST_LAW_TEXT];
        private final int[] values = new int[MOST_LAW_TEXT];
        private final int[] heap = new int[MOST_HEAP];
        private int size;
        private int steps;

        private void empty() {
            size = 0;
            steps = 0;
        }

        private void beginRule(int kind) {
            put(kinds, size, kind);
            put(amountAt, size, steps);
        }

        private void beginTest() {
            put(testAt, size, steps);
        }

        private void endRule() {
            put(endAt, size, steps);
            size++;
        }

        private int add(int sign, int value) {
            put(signs, steps, sign);
            put(values, steps, value);
            steps++;
            return steps - 1;
        }

        /** Lets a step go on behind all that there is. */
        private void aim(int step) {
            put(values, step, steps);
        }

        private boolean someHolds(int kind, int[] letters) {
            for (int rule = 0; rule < size; rule++) {
                if (get(kinds, rule) == kind && reckon(get(testAt, rule), get(endAt, rule), letters) != 0) {
                    return true;
                }
            }
            return false;
        }

        private int amount(int kind, int most, int[] letters) {
            for (int rule = 0; rule < size; rule++) {
                if (get(kinds, rule) == kind && reckon(get(testAt, rule), get(endAt, rule), letters) != 0) {
                    int amount = reckon(get(amountAt, rule), get(testAt, rule), letters);
                    return Math.max(0, Math.min(amount, most));
                }
            }
            return 0;
        }

        /** What is REFUSED answers 0: an E is 0 then, and a C does not hold. */
        private int reckon(int from, int end, int[] letters) {
            int top = -1;
            int at = from;
            for (int i = 0; i < MOST_LAW_TEXT && at < end; i++) {
                int sign = get(signs, at);
                int value = get(values, at);
                at++;
                switch (sign) {
                    case NUMBER:
                        top++;
                        put(heap, top, value);
                        break;
                    case LETTER:
                        top++;
                        put(heap, top, get(letters, value));
                        break;
                    case '!':
                        put(heap, top, get(heap, top) == 0 ? 1 : 0);
                        break;
                    case '&':
                    case '|':
                        if ((get(heap, top) != 0) == (sign == '|')) {
                            at = value;
                        } else {
                            top--;
                        }
                        break;
                    default:
                        int second = get(heap, top);
                        if (second == 0 && (sign == '/' || sign == '%')) {
                            return 0;
                        }
                        top--;
                        put(heap, top, joined(sign, get(heap, top), second));
                        break;
                }
            }
            return get(heap, 0);
        }

        private static int joined(int sign, int a, int b) {
            switch (sign) {
                case '+': return a + b;
                case '-': return a - b;
                case '*': return a * b;
                case '/': return b == 0 ? 0 : a / b;
                case '%': return b == 0 ? 0 : a % b;
                case '<': return a < b ? 1 : 0;
                case '>': return a > b ? 1 : 0;
                default: return a == b ? 1 : 0;
            }
        }
    }

    /** Reads THE LAW out of a text; the one in force is not touched by it. */
    private static final class LawReader {
        private static final int MOST_OPEN = 6;

        private Law law = new Law();

        private void readAll(Text text) {
            law.empty();
            readRule(text);
            for (int i = 0; i < MOST_LAW_TEXT && text.goesOn(';'); i++) {
                readRule(text);
            }
            text.mustEnd();
        }

        /** Hands out what was read and takes the old one to read into. */
        private Law exchange(Law old) {
            Law read = law;
            law = old;
            return read;
        }

        private void readRule(Text text) {
            int kind = text.sign();
            if (kind != 'w' && kind != 'c' && kind != 'i' && kind != 'n' && kind != 'x') {
                text.refuse(CANNOT_STAND, text.place);
                return;
            }
            if (law.size >= MOST_RULES) {
                text.refuse(ONE_TOO_MANY, text.place);
                return;
            }
            text.place++;
            law.beginRule(kind);
            if (kind != 'x') {
                readSum(text, 0);
            }
            law.beginTest();
            text.pass('(');
            readParts(text, 1);
            text.pass(')');
            law.endRule();
        }

        private void readParts(Text text, int open) {
            readPart(text, open);
            for (int i = 0; i < MOST_LAW_TEXT && text.goesOn('|'); i++) {
                int jump = law.add('|', 0);
                readPart(text, open);
                law.aim(jump);
            }
        }

        private void readPart(Text text, int open) {
            readTest(text, open);
            for (int i = 0; i < MOST_LAW_TEXT && text.goesOn('&'); i++) {
                int jump = law.add('&', 0);
                readTest(text, open);
                law.aim(jump);
            }
        }

        private void readTest(Text text, int open) {
            if (text.sign() == '!') {
                if (opens(text, open)) {
                    readTest(text, open + 1);
                    law.add('!', 0);
                }
            } else if (text.sign() == '(') {
                if (opens(text, open)) {
                    readParts(text, open + 1);
                    text.pass(')');
                }
            } else {
                readSum(text, open);
                int sign = text.either('<', '>', '=');
                if (sign == 0) {
                    text.refuse(CANNOT_STAND, text.place);
                } else {
                    readSum(text, open);
                    law.add(sign, 0);
                }
            }
        }

        private void readSum(Text text, int open) {
            readProduct(text, open);
            int sign = text.either('+', '-', '-');
            for (int i = 0; i < MOST_LAW_TEXT && sign != 0; i++) {
                readProduct(text, open);
                law.add(sign, 0);
                sign = text.either('+', '-', '-');
            }
        }

        private void readProduct(Text text, int open) {
            readFactor(text, open);
            int sign = text.either('*', '/', '%');
            for (int i = 0; i < MOST_LAW_TEXT && sign != 0; i++) {
                readFactor(text, open);
                law.add(sign, 0);
                sign = text.either('*', '/', '%');
            }
        }

        private void readFactor(Text text, int open) {
            if (text.sign() == '[') {
                if (opens(text, open)) {
                    readSum(text, open + 1);
                    text.pass(']');
                }
            } else if (text.digit()) {
                law.add(Law.NUMBER, text.readNumber(5));
            } else {
                int letter = Letters.placeOf(text.sign());
                if (letter < 0) {
                    text.refuse(CANNOT_STAND, text.place);
                } else {
                    text.place++;
                    law.add(Law.LETTER, letter);
                }
            }
        }

        /** Steps over what opens, unless too much is open; nothing is opened behind a FAULT. */
        private static boolean opens(Text text, int open) {
            if (open >= MOST_OPEN) {
                text.refuse(TOO_DEEP, text.place);
            }
            if (!text.sound()) {
                return false;
            }
            text.place++;
            return true;
        }
    }

    /** Where the letters of THE LAW have their values in a row. */
    private static final class Letters {
        private static final int SIDE = 0;
        private static final int STANDING = 1;
        private static final int OTHERS = 2;
        private static final int TO_BUILD = 3;
        private static final int LACKING = 4;
        private static final int STORE = 5;
        private static final int DEBT = 6;
        private static final int DAY = 7;
        private static final int DRAW = 8;
        private static final int ALL = 9;

        private static int placeOf(int letter) {
            switch (letter) {
                case 'e': return SIDE;
                case 'a': return STANDING;
                case 'b': return OTHERS;
                case 'g': return TO_BUILD;
                case 'h': return LACKING;
                case 's': return STORE;
                case 'k': return DEBT;
                case 't': return DAY;
                case 'r': return DRAW;
                default: return -1;
            }
        }
    }

    /** Both sides, what is laid on them, and how a DAY goes by. */
    private static final class Works {
        private final Plan left = new Plan();
        private final Plan right = new Plan();
        private final State now = new State();
        private final int[] letters = new int[Letters.ALL];
        private Law rules = new Law();
        private int most = MOST_TILT;

        private Plan built(int side) {
            return side == LEFT ? left : right;
        }

        private int standing(int side) {
            return built(side).standingBy(now.laidOn(side));
        }

        private int toBuild(int side) {
            return built(side).arches - standing(side);
        }

        private boolean reached(int side) {
            int arches = built(side).arches;
            return arches > 0 && standing(side) == arches;
        }

        /** STONES that the next ARCH still needs. */
        private int lacking(int side) {
            int stand = standing(side);
            Plan plan = built(side);
            return stand < plan.arches ? plan.stonesUpTo(stand + 1) - now.laidOn(side) : 0;
        }

        private int weight(int side) {
            int stand = standing(side);
            int sum = 0;
            for (int arch = 1; arch <= stand && arch <= MOST_ARCHES; arch++) {
                sum += (built(side).stonesOf(arch) + now.benchAt(side, arch)) * arch;
            }
            return sum;
        }

        private int passDays(int n) {
            int laid = 0;
            for (int i = 0; i < n && i < MOST_DAYS_ASKED; i++) {
                laid += passDay();
            }
            return laid;
        }

        private int passDay() {
            if (now.day >= MOST_DAY) {
                return 0;
            }
            deliver();
            int laid = work(LEFT);
            laid += work(RIGHT);
            fall();
            now.day++;
            return laid;
        }

        private void deliver() {
            tellAll(now.nextDraw());
            put(letters, Letters.SIDE, 0);
            put(letters, Letters.STANDING, 0);
            put(letters, Letters.OTHERS, 0);
            put(letters, Letters.TO_BUILD, 0);
            put(letters, Letters.LACKING, 0);
            int stones = rules.amount('i', 999, letters);
            int pence = rules.amount('n', 9999, letters);
            now.addStore(stones);
            now.addDebt(pence);
        }

        private int work(int side) {
            if (reached(side)) {
                return 0;
            }
            tellAll(now.nextDraw());
            tellSide(side);
            if (rules.someHolds('x', letters)) {
                return 0;
            }
            int wanted = rules.amount('w', 99, letters);
            int price = rules.amount('c', 99, letters);
            int laid = Math.max(0, Math.min(wanted, Math.min(now.store, mayBeLaid(side))));
            now.lay(side, laid);
            now.addStore(-laid);
            now.addDebt(price * laid);
            return laid;
        }

        /** What the PLAN still needs, less what waits for the other side. */
        private int mayBeLaid(int side) {
            Plan plan = built(side);
            int others = standing(1 - side);
            int end = plan.whole();
            if (others < built(1 - side).arches) {
                int waiting = Math.max(standing(side) + 1, others + 2);
                if (waiting <= plan.arches) {
                    end = plan.stonesUpTo(waiting) - 1;
                }
            }
            return end - now.laidOn(side);
        }

        private void fall() {
            int apart = weight(LEFT) - weight(RIGHT);
            if (Math.abs(apart) <= most) {
                return;
            }
            int side = apart > 0 ? LEFT : RIGHT;
            int stand = standing(side);
            if (stand > 0) {
                now.setLaid(side, built(side).stonesUpTo(stand - 1));
                now.fallen++;
            }
        }

        private void tellAll(int draw) {
            put(letters, Letters.STORE, now.store);
            put(letters, Letters.DEBT, now.debt / 100);
            put(letters, Letters.DAY, now.day % 100);
            put(letters, Letters.DRAW, draw);
        }

        private void tellSide(int side) {
            put(letters, Letters.SIDE, side);
            put(letters, Letters.STANDING, standing(side));
            put(letters, Letters.OTHERS, standing(1 - side));
            put(letters, Letters.TO_BUILD, toBuild(side));
            put(letters, Letters.LACKING, lacking(side));
        }

        private int daysTillBank(int n) {
            for (int behind = 0; behind <= n && behind <= MOST_DAYS_ASKED; behind++) {
                if (reached(LEFT) || reached(RIGHT)) {
                    return behind;
                }
                passDay();
            }
            return NOT_POSSIBLE;
        }

        private int sideAtBank() {
            if (reached(LEFT) && reached(RIGHT)) {
                return BOTH;
            }
            return reached(LEFT) ? LEFT : RIGHT;
        }

        private int mostAhead(int n) {
            int far = 0;
            for (int behind = 0; behind <= n && behind <= MOST_DAYS_ASKED; behind++) {
                far = Math.max(far, Math.abs(standing(LEFT) - standing(RIGHT)));
                passDay();
            }
            return far;
        }

        private int daysTillDebt(int n, int sum) {
            for (int behind = 0; behind <= n && behind <= MOST_DAYS_ASKED; behind++) {
                if (now.debt > sum) {
                    return behind;
                }
                passDay();
            }
            return NOT_POSSIBLE;
        }
    }

    /** A bell rung in changes: rows of up to six, three bits for each of them. */
    private static final class Bell {
        private static final int MOST_ROWS = 720;

        private final int[] found = new int[MOST_ROWS];
        private final int[] changesTo = new int[MOST_ROWS];

        private int fewestChanges(Text text, int n) {
            int wanted = 0;
            int rounds = 0;
            for (int i = 0; i < n; i++) {
                wanted |= text.at(i) << 3 * i;
                rounds |= i << 3 * i;
            }
            for (int i = 0; i < MOST_ROWS; i++) {
                put(changesTo, i, NONE);
            }
            put(found, 0, rounds);
            put(changesTo, placeOf(rounds, n), 0);
            int many = 1;
            int target = placeOf(wanted, n);
            for (int i = 0; i < many && i < MOST_ROWS && get(changesTo, target) == NONE; i++) {
                many = ringFrom(get(found, i), n, many);
            }
            return get(changesTo, target);
        }

        /** Finds what one change makes of a row; a bit for each pair that changes places. */
        private int ringFrom(int row, int n, int many) {
            int next = get(changesTo, placeOf(row, n)) + 1;
            int all = many;
            for (int pairs = 1; pairs < 1 << (n - 1); pairs++) {
                if ((pairs & pairs >> 1) == 0) {
                    int rung = swapped(row, pairs, n);
                    int place = placeOf(rung, n);
                    if (get(changesTo, place) == NONE) {
                        put(changesTo, place, next);
                        put(found, all, rung);
                        all++;
                    }
                }
            }
            return all;
        }

        private static int swapped(int row, int pairs, int n) {
            int rung = row;
            for (int i = 0; i < n - 1; i++) {
                if ((pairs >> i & 1) != 0) {
                    int both = (rung >> 3 * i ^ rung >> 3 * i + 3) & 7;
                    rung ^= both << 3 * i | both << 3 * i + 3;
                }
            }
            return rung;
        }

        /** The place of a row among all rows of n. */
        private static int placeOf(int row, int n) {
            int place = 0;
            for (int i = 0; i < n; i++) {
                int smaller = 0;
                for (int j = i + 1; j < n; j++) {
                    if ((row >> 3 * j & 7) < (row >> 3 * i & 7)) {
                        smaller++;
                    }
                }
                place = place * (n - i) + smaller;
            }
            return place;
        }
    }

    /** Questions that stand for themselves, with rows that are used again. */
    private static final class Puzzles {
        private static final int BENCH_STEP = 16;
        private static final int MOST_ORDERS = 1000000000;
        private static final int TOO_MANY_PILES = 1000;
        private static final int MOST_YEARS = 200;

        private final int[] ways = new int[MOST_ARCHES + 1];
        private final int[] pilesTo = new int[61];
        private final int[] minutes = new int[10];
        private final int[] asked = new int[5];
        private final int[] husbands = new int[5];

        /** The least difference times BENCH_STEP, and the fewest BENCHES by which it is had. */
        private static int evenest(Text text, int i, int left, int right, int apart, int used) {
            if (i >= text.length || i >= 8) {
                return Math.abs(apart) * BENCH_STEP + used;
            }
            int none = evenest(text, i + 1, left, right, apart, used);
            int onLeft = evenest(text, i + 1, left, right, apart + text.at(i) * left, used + 1);
            int onRight = evenest(text, i + 1, left, right, apart - text.at(i) * right, used + 1);
            return Math.min(none, Math.min(onLeft, onRight));
        }

        private int ordersOfBuilding(Works works) {
            int left = works.standing(LEFT);
            int right = works.standing(RIGHT);
            int mostLeft = works.left.arches;
            int mostRight = works.right.arches;
            for (int b = 0; b <= MOST_ARCHES; b++) {
                put(ways, b, 0);
            }
            for (int a = left; a <= mostLeft && a <= MOST_ARCHES; a++) {
                for (int b = right; b <= mostRight && b <= MOST_ARCHES; b++) {
                    int many = get(ways, b) + (b > right ? get(ways, b - 1) : 0);
                    if (a == left && b == right) {
                        many = 1;
                    } else if (a < mostLeft && b - a > 1 || b < mostRight && a - b > 1) {
                        many = 0;
                    }
                    put(ways, b, Math.min(many, MOST_ORDERS));
                }
            }
            return get(ways, mostRight);
        }

        private static boolean fliesOver(int gap, int rail, int height, int on, int up) {
            int far = 0;
            int high = height;
            int speed = up;
            for (int moment = 1; moment <= 200; moment++) {
                far += on;
                high += speed;
                speed--;
                if (far >= gap) {
                    return high >= rail;
                }
                if (high < 0) {
                    return false;
                }
            }
            return false;
        }

        /** The last PILE's place, 0 where none is needed, below 0 where it can't be. */
        private int lastPile(Text text, int length, int span) {
            put(pilesTo, 0, 0);
            int best = TOO_MANY_PILES;
            int last = NOT_POSSIBLE;
            for (int place = 0; place < length && place < 61; place++) {
                if (place > 0) {
                    put(pilesTo, place, pilesWithLast(text, place, span));
                }
                if (length - place <= span && pilesUpTo(place) < best) {
                    best = pilesUpTo(place);
                    last = place;
                }
            }
            return last;
        }

        private int pilesUpTo(int place) {
            return get(pilesTo, place);
        }

        private int pilesWithLast(Text text, int place, int span) {
            if ((text.at(place / 8) >> place % 8 & 1) == 0) {
                return TOO_MANY_PILES;
            }
            int fewest = TOO_MANY_PILES - 1;
            for (int before = Math.max(0, place - span); before < place; before++) {
                fewest = Math.min(fewest, pilesUpTo(before));
            }
            return fewest + 1;
        }

        /** The bits of the fewest LAMPS, below 0 where it can't be. */
        private static int fewestLamps(Text text, int n, int far) {
            int all = (1 << n) - 1;
            int fewest = n + 1;
            int best = NOT_POSSIBLE;
            for (int bits = 1; bits <= all && bits < 4096; bits++) {
                int many = Integer.bitCount(bits);
                if (many < fewest && litBy(text, bits, n, far) == all) {
                    fewest = many;
                    best = bits;
                }
            }
            return best;
        }

        /** What is lit; nothing where a LAMP stands that may not. */
        private static int litBy(Text text, int bits, int n, int far) {
            int lit = 0;
            for (int i = 0; i < n; i++) {
                if ((bits >> i & 1) != 0) {
                    if (text.at(i) == 0) {
                        return 0;
                    }
                    int reach = (1 << 2 * far + 1) - 1;
                    lit |= i >= far ? reach << i - far : reach >> far - i;
                }
            }
            return lit & (1 << n) - 1;
        }

        private static int claimed(Text text, int n, int what) {
            int lowest = MOST_BYTE;
            int highest = 0;
            for (int i = 0; i < n; i++) {
                lowest = Math.min(lowest, text.at(2 * i));
                highest = Math.max(highest, text.at(2 * i + 1));
            }
            int byBoth = 0;
            int byNobody = 0;
            int most = 0;
            for (int place = lowest; place < highest && place < MOST_BYTE; place++) {
                int first = claimsOf(text, n, LEFT, place);
                int second = claimsOf(text, n, RIGHT, place);
                byBoth += first > 0 && second > 0 ? 1 : 0;
                byNobody += first + second == 0 ? 1 : 0;
                most = Math.max(most, first + second);
            }
            return what == 0 ? byBoth : what == 1 ? byNobody : most;
        }

        /** A place is what lies from it to the next one. */
        private static int claimsOf(Text text, int n, int side, int place) {
            int many = 0;
            for (int i = side; i < n; i += 2) {
                if (text.at(2 * i) <= place && place < text.at(2 * i + 1)) {
                    many++;
                }
            }
            return many;
        }

        private int leastMinutes(Text text, int n) {
            sortMinutes(text, n);
            int first = get(minutes, 0);
            int second = get(minutes, 1);
            int sum = 0;
            int here = n;
            for (int i = 0; i < 10 && here > 3; i++) {
                int slowest = get(minutes, here - 1);
                int next = get(minutes, here - 2);
                sum += Math.min(first + 2 * second + slowest, 2 * first + next + slowest);
                here -= 2;
            }
            if (here == 3) {
                return sum + first + second + get(minutes, 2);
            }
            return sum + (here == 2 ? second : first);
        }

        private void sortMinutes(Text text, int n) {
            for (int i = 0; i < n; i++) {
                int one = text.at(i);
                int place = i;
                for (int j = i - 1; j >= 0 && get(minutes, j) > one; j--) {
                    put(minutes, j + 1, get(minutes, j));
                    place = j;
                }
                put(minutes, place, one);
            }
        }

        private int weds(Text text, int n, int man) {
            for (int i = 0; i < n; i++) {
                put(asked, i, 0);
                put(husbands, i, NONE);
            }
            int single = 0;
            for (int i = 0; i < 2 * n * n && single >= 0; i++) {
                int woman = text.at(single * n + get(asked, single));
                put(asked, single, get(asked, single) + 1);
                int husband = get(husbands, woman);
                if (husband == NONE || likes(text, n, woman, single, husband)) {
                    put(husbands, woman, single);
                }
                single = firstSingle(n);
            }
            for (int woman = 0; woman < n; woman++) {
                if (get(husbands, woman) == man) {
                    return woman;
                }
            }
            return NONE;
        }

        private int firstSingle(int n) {
            int wedded = 0;
            for (int woman = 0; woman < n; woman++) {
                if (get(husbands, woman) >= 0) {
                    wedded |= 1 << get(husbands, woman);
                }
            }
            for (int man = 0; man < n; man++) {
                if ((wedded >> man & 1) == 0) {
                    return man;
                }
            }
            return NONE;
        }

        /** Whether she likes the new one better than the old one. */
        private static boolean likes(Text text, int n, int woman, int suitor, int husband) {
            for (int i = 0; i < n; i++) {
                int man = text.at(n * n + woman * n + i);
                if (man == suitor || man == husband) {
                    return man == suitor;
                }
            }
            return false;
        }

        private static int mixtures(int n, int k) {
            int many = 0;
            for (int bits = 0; bits < 1 << n; bits++) {
                many += longestRun(bits, n) <= k ? 1 : 0;
            }
            return many;
        }

        private static int leastMixture(int n, int k) {
            for (int bits = 0; bits < 1 << n; bits++) {
                if (longestRun(bits, n) <= k) {
                    return bits;
                }
            }
            return NOT_POSSIBLE;
        }

        private static int longestRun(int bits, int n) {
            int longest = 1;
            int run = 1;
            for (int i = 1; i < n; i++) {
                run = (bits >> i & 1) == (bits >> i - 1 & 1) ? run + 1 : 1;
                longest = Math.max(longest, run);
            }
            return longest;
        }

        private static int yearsTillPaid(int debt, int payment, int hundredths) {
            int rest = debt;
            for (int years = 0; years <= MOST_YEARS; years++) {
                if (rest <= 0) {
                    return years;
                }
                int next = rest + (rest * hundredths + 99) / 100 - payment;
                // what does not get less now never will, and would grow beyond all bounds
                if (next >= rest) {
                    return NOT_POSSIBLE;
                }
                rest = next;
            }
            return NOT_POSSIBLE;
        }
    }
}
