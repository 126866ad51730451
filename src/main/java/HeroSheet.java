import java.util.Arrays;

/** Sheets of heroes: values, choices and rules that read one another. README.md tells how to use it. */
public final class HeroSheet {
    public static final int NONE = -1;
    public static final long NO = -1000000000000L;

    private static final int MOST_VALUES = 10;
    private static final int MOST_RULES = 30;
    private static final int MOST_SPELLS = 10;
    private static final int MOST_TURNS = 1000;
    private static final int MOST_BACKS = 20;
    private static final int MOST_TRACED = 50;
    private static final int CHOICES = 8;
    private static final int SETS_OF_CHOICES = 256;
    private static final int TYPES = 5;
    private static final int SOURCES = 20;
    private static final int RANKS = 9;
    private static final int FACTORS = 9;
    private static final int ROWS = 4;
    private static final int ROW_LENGTH = 40;
    private static final int MOST_DICE = 5;
    private static final int MOST_SIDES = 12;
    private static final int NO_SUCH_VALUE = -1000;

    private static final int POOL = 2;
    private static final int DICE = 3;
    private static final int TRUTH = 4;

    private static final int RULE = 0;
    private static final int TYPED = 1;
    private static final int SET = 2;
    private static final int CAP = 3;
    private static final int INSTEAD = 4;
    private static final int OPENS = 5;
    private static final int BARS = 6;
    private static final int CAP_AT_LEAST = 7;

    private static final int ALWAYS = 0;
    private static final int IF_MADE = 1;
    private static final int IF_NOT_MADE = 2;
    private static final int IF_AT_LEAST = 3;
    private static final int IF_BELOW = 4;

    private static final int NOT_THERE = 0;
    private static final int NOT_HOLDING = 1;
    private static final int COUNTS = 2;
    private static final int TWICE = 3;
    private static final int BEATEN = 4;

    private static final int DONE = 0;
    private static final int WRONG = 1;
    private static final int FULL = 2;
    private static final int NOT_SO = 3;
    private static final int IN_A_RING = 4;
    private static final int NOTHING_THERE = 10;
    private static final int OTHER_SORT = 11;
    private static final int OUTSIDE = 12;
    private static final int BELOW_ZERO = 13;
    private static final int MISFIT = 14;
    private static final int BY_ZERO = 15;

    private static final int BYTES = 0;
    private static final int SHORTS = 1;
    private static final int INTS = 2;
    private static final int MISSING = -1;

    private final State now = new State();
    private final State kept = new State();
    private final Book book = new Book(now);
    private boolean hasImage = false;
    private int backs = 0;
    private int latestStatus = DONE;
    private final Test always = new Test(ALWAYS, 0, 0);
    private Test comingTest = always;
    private final int[] ringValues = new int[MOST_VALUES];
    private final int[] ringLayers = new int[MOST_VALUES];
    private int ringSize = 0;
    // Place 0 tells how many bodies follow it.
    private final int[] traced = new int[MOST_TRACED + 1];
    private final int[][] rows = new int[ROWS][ROW_LENGTH];
    private final int[] rowSorts = {MISSING, MISSING, MISSING, MISSING};
    private final int[] rowSizes = new int[ROWS];
    private final long[] waysToRoll = new long[MOST_DICE * MOST_SIDES + 1];

    public HeroSheet() {
    }

    // ---- what changes the sheet

    public int value(int kind, int base, int more) {
        boolean told = kind >= 0 && kind <= TRUTH && isWithin(base, 99);
        if (!told || (kind == DICE && !areDice(more))) {
            return refused(WRONG);
        }
        if (now.values >= MOST_VALUES) {
            return refused(FULL);
        }
        now.addValue(kind, base, kind == DICE ? more : 0);
        book.forget();
        return done(now.values - 1);
    }

    public int free(int choice, boolean is) {
        if (!isChoice(choice)) {
            return refused(WRONG);
        }
        int before = now.free;
        now.free = withBit(before, choice, is);
        book.forget();
        return done(now.free == before ? 0 : 1);
    }

    public int test(int how, int of) {
        if (how != ALWAYS && ((how != IF_MADE && how != IF_NOT_MADE) || !isChoice(of))) {
            return refused(WRONG);
        }
        comingTest = how == ALWAYS ? always : new Test(how, of, 0);
        return done(1);
    }

    public int testValue(int of, boolean below, int n) {
        if (!isValue(of) || !isWithin(n, 1000)) {
            return refused(WRONG);
        }
        comingTest = new Test(below ? IF_BELOW : IF_AT_LEAST, of, n);
        return done(1);
    }

    public int rule(int kind, int aim, int more, int amount, int by) {
        if (kind < RULE || kind == TYPED || kind > CAP_AT_LEAST || !canBeRule(kind, aim, more, amount, by)) {
            return refused(WRONG);
        }
        return entered(ruleOf(kind, aim, more, amount, by));
    }

    public int typed(int type, int aim, int more, int amount, int by) {
        if (!isType(type) || !canBeRule(TYPED, aim, more, amount, by)) {
            return refused(WRONG);
        }
        return entered(new Typed(now.rules, comingTest, type, aim, more, amount, by));
    }

    public int stack(int type, boolean is) {
        if (!isType(type)) {
            return refused(WRONG);
        }
        int before = now.stacking;
        now.stacking = withBit(before, type, is);
        book.forget();
        return done(now.stacking == before ? 0 : 1);
    }

    // The book stays: it tells of every set of choices, whichever are made.
    public int make(int choice, boolean is) {
        if (!isChoice(choice)) {
            return refused(WRONG);
        }
        if (hasBit(now.made, choice) == is) {
            return refused(NOT_SO);
        }
        now.made = withBit(now.made, choice, is);
        return done(Integer.bitCount(now.made));
    }

    public int spell(int value, int number, int n) {
        if (!isValue(value) || !isWithin(number, 20) || n < 1 || n > 20) {
            return refused(WRONG);
        }
        if (now.spells >= MOST_SPELLS) {
            return refused(FULL);
        }
        now.addSpell(value, number, now.turn + n);
        book.forget();
        return done(now.spells);
    }

    public int turn() {
        if (now.turn >= MOST_TURNS) {
            return refused(FULL);
        }
        int before = now.lastingSpells();
        now.turn++;
        book.forget();
        return done(before - now.lastingSpells());
    }

    public int spend(int value, int n) {
        if (!isOfKind(value, POOL) || n < 1 || n > 1000) {
            return refused(WRONG);
        }
        long left = numberNow(value) - n;
        if (left < 0) {
            return refused(NOT_SO);
        }
        now.spent[value] += n;
        book.forget();
        return done((int) left);
    }

    public int rest() {
        int had = 0;
        for (int v = 0; v < now.values; v++) {
            if (now.spent[v] != 0) {
                now.spent[v] = 0;
                had++;
            }
        }
        book.forget();
        return done(had);
    }

    public int image() {
        kept.copyOf(now);
        hasImage = true;
        return done(1);
    }

    public int back() {
        if (backs >= MOST_BACKS) {
            return refused(FULL);
        }
        if (!hasImage) {
            return refused(NOT_SO);
        }
        backs++;
        now.copyOf(kept);
        comingTest = always;
        book.forget();
        return done(now.turn);
    }

    // ---- questions about values and rules

    public int valueTold(int value, int what) {
        if (!isValue(value)) {
            return NO_SUCH_VALUE;
        }
        switch (what) {
            case 0:
                return now.kinds[value];
            case 1:
                return now.bases[value];
            case 2:
                return now.spent[value];
            case 3:
                return now.diceCount(value);
            case 4:
                return now.diceSides(value);
            case 5:
                return bit(hasBit(reckonedNow().quarrels, value));
            default:
                return NO_SUCH_VALUE;
        }
    }

    public long number(int value, int bits) {
        if (!isValue(value) || !isSetOrMade(bits)) {
            return NO;
        }
        return book.numberOn(value, madeOr(bits));
    }

    public int ruleTold(int rule, int what) {
        Rule r = ruleOrNull(rule);
        if (r == null) {
            return NONE;
        }
        switch (what) {
            case 0:
                return r.kind;
            case 1:
                return r.aim;
            case 2:
                return r.rank;
            case 3:
                return r.source;
            case 4:
                return r instanceof Typed t ? t.type : 0;
            case 5:
                return bit(hasBit(reckonedNow().there, rule));
            case 6:
                return bit(r.test.holds(now.made, reckonedNow().numbers));
            case 7:
                return r.writes == NONE ? NONE : reckonedNow().hows[rule];
            case 8:
                return r.writes == NONE ? NONE : reckonedNow().beaters[rule];
            default:
                return NONE;
        }
    }

    public long amount(int rule) {
        Rule r = ruleOrNull(rule);
        if (r == null || r.writes == NONE) {
            return NO;
        }
        return reckonedNow().amounts[rule];
    }

    public int ring(int i) {
        return i >= 0 && i < ringSize ? ringValues[i] : NONE;
    }

    public int needs(int w, int v) {
        if (!isValue(w) || !isValue(v)) {
            return NONE;
        }
        return bit(hasBit(now.needsThrough[w], v));
    }

    // ---- questions about choices and sheets

    public int choice(int choice, int what) {
        if (!isChoice(choice)) {
            return NONE;
        }
        switch (what) {
            case 0:
                return bit(hasBit(now.made, choice));
            case 1:
                return bit(hasBit(now.free, choice));
            case 2:
                return bit(book.isOpen(choice, now.made));
            default:
                return NONE;
        }
    }

    public int lawful(int bits) {
        return isSetOrMade(bits) ? bit(book.isLawful(madeOr(bits))) : NONE;
    }

    public int mend() {
        return book.mended(now.made);
    }

    public long most(int value, int must, int without, boolean least) {
        int bits = isValue(value) ? book.bestSheet(value, must, without, least) : NONE;
        return bits == NONE ? NO : book.numberOn(value, bits);
    }

    public int seek(int value, int must, int without, boolean least) {
        return isValue(value) ? book.bestSheet(value, must, without, least) : NONE;
    }

    public int both(int v, int w) {
        return isValue(v) && isValue(w) ? book.unbettered(v, w) : NONE;
    }

    public int way(int bits, int i) {
        if (!isSet(bits) || i < 0 || i >= Integer.bitCount(bits)) {
            return NONE;
        }
        book.markLeading(bits);
        return book.stepOfWay(bits, i);
    }

    // ---- dice and counts

    public long dice(int value, int what) {
        if (!isOfKind(value, DICE)) {
            return NO;
        }
        int count = now.diceCount(value);
        int sides = now.diceSides(value);
        long number = numberNow(value);
        int twiceMean = count * (sides + 1);
        boolean whole = twiceMean % 2 == 0;
        switch (what) {
            case 0:
                return number + count;
            case 1:
                return number + count * sides;
            case 2:
                return whole ? number + twiceMean / 2 : number * 2 + twiceMean;
            case 3:
                return whole ? 1 : 2;
            default:
                return NO;
        }
    }

    public long chance(int value, int n, boolean best, int what) {
        if (!isOfKind(value, DICE) || what < 0 || what > 1) {
            return NO;
        }
        long all = countWays(now.diceCount(value), now.diceSides(value));
        long hits = waysToReach(n, numberNow(value));
        long below = best ? all * all : all;
        long above = best ? below - (all - hits) * (all - hits) : hits;
        long common = commonDivisor(above, below);
        return (what == 0 ? above : below) / common;
    }

    public int count(int what) {
        switch (what) {
            case 0:
                return now.values;
            case 1:
                return now.rules;
            case 2:
                return now.spells;
            case 3:
                return now.lastingSpells();
            case 4:
                return now.turn;
            case 5:
                return now.made;
            case 6:
                return book.lawfulSheets();
            case 7:
                return traced[0];
            case 8:
                return ringSize;
            default:
                return NONE;
        }
    }

    // ---- acts

    public int act(int rule, int act, int x) {
        Rule r = ruleOrNull(rule);
        if (r == null || act < 0 || act > 3) {
            return refused(WRONG);
        }
        traced[0] = 0;
        latestStatus = DONE;
        switch (act) {
            case 0:
                return r.give(x, traced);
            case 1:
                return r.fit(x, traced);
            case 2:
                return r.open(x, traced);
            default:
                return r.tell(x, traced);
        }
    }

    public int trace(int i) {
        return i >= 0 && i < traced[0] ? traced[i + 1] : NONE;
    }

    // ---- sheets of numbers, and what the host refuses

    public int sheet(int sheet, int sort, int n) {
        boolean gone = sort == MISSING;
        if (!isRow(sheet) || (!gone && (!isSort(sort) || n < 0 || n > ROW_LENGTH))) {
            return refused(WRONG);
        }
        rowSorts[sheet] = sort;
        rowSizes[sheet] = gone ? 0 : n;
        Arrays.fill(rows[sheet], 0);
        return done(1);
    }

    public int cell(int sheet, int i, int v) {
        if (!isRow(sheet) || !isWithin(v, 1000)) {
            return refused(WRONG);
        }
        if (rowSorts[sheet] == MISSING) {
            return refused(NOTHING_THERE);
        }
        if (i < 0 || i >= rowSizes[sheet]) {
            return refused(OUTSIDE);
        }
        rows[sheet][i] = rowSorts[sheet] == BYTES ? (byte) v : v;
        return done(1);
    }

    public int row(int sheet, int sort, int i) {
        if (!isRow(sheet) || !isSort(sort)) {
            return refused(WRONG);
        }
        if (now.rules >= MOST_RULES) {
            return refused(FULL);
        }
        if (rowSorts[sheet] == MISSING) {
            return refused(NOTHING_THERE);
        }
        if (rowSorts[sheet] != sort) {
            return refused(OTHER_SORT);
        }
        if (i < 0 || i > rowSizes[sheet] - 3) {
            return refused(OUTSIDE);
        }
        int aim = rows[sheet][i];
        int amount = rows[sheet][i + 1];
        int source = rows[sheet][i + 2];
        if (!canBeRule(RULE, aim, source << 4, amount, NONE)) {
            return refused(NOT_SO);
        }
        return entered(new Rule(RULE, now.rules, comingTest, aim, source << 4, amount, NONE));
    }

    public int forge(int what, int n, int k) {
        if (what < 0 || what > 6 || !isWithin(n, 100) || !isWithin(k, 100)) {
            return refused(WRONG);
        }
        Rule r = ruleOrNull(Math.floorMod(k, MOST_RULES));
        int sheet = Math.floorMod(k, ROWS);
        switch (what) {
            case 0:
                return takenForKind(r, Math.floorMod(n, 7));
            case 1:
                return n < 0 ? refused(BELOW_ZERO) : done(n);
            case 2:
                return readFromShorts(sheet, n);
            case 3:
                return copiedFromBytes(sheet, n);
            case 4:
                return putAmongOpens(r);
            case 5:
                return n == 0 ? refused(BY_ZERO) : done(1000 / n);
            default:
                return Math.floorMod(n, 2) == 0 ? refused(NOTHING_THERE) : done(1);
        }
    }

    public int status() {
        return latestStatus;
    }

    // ---- answers

    private int done(int answer) {
        latestStatus = DONE;
        return answer;
    }

    private int refused(int why) {
        latestStatus = why;
        return NONE;
    }

    // ---- what numbers may be

    private static boolean isWithin(int n, int limit) {
        return n >= -limit && n <= limit;
    }

    private static boolean isChoice(int choice) {
        return choice >= 0 && choice < CHOICES;
    }

    private static boolean isSet(int bits) {
        return bits >= 0 && bits < SETS_OF_CHOICES;
    }

    private static boolean isSetOrMade(int bits) {
        return bits == NONE || isSet(bits);
    }

    private int madeOr(int bits) {
        return bits == NONE ? now.made : bits;
    }

    private static boolean isType(int type) {
        return type >= 1 && type <= TYPES;
    }

    private static boolean isRow(int sheet) {
        return sheet >= 0 && sheet < ROWS;
    }

    private static boolean isSort(int sort) {
        return sort >= BYTES && sort <= INTS;
    }

    private static boolean areDice(int more) {
        int count = more & 7;
        int sides = more >> 3;
        return count >= 1 && count <= MOST_DICE && sides >= 2 && sides <= MOST_SIDES;
    }

    private boolean isValue(int value) {
        return value >= 0 && value < now.values;
    }

    private boolean isOfKind(int value, int kind) {
        return isValue(value) && now.kinds[value] == kind;
    }

    private Rule ruleOrNull(int rule) {
        return rule >= 0 && rule < now.rules ? now.ruleList[rule] : null;
    }

    private static boolean hasBit(int bits, int i) {
        return (bits >> i & 1) != 0;
    }

    private static int withBit(int bits, int i, boolean is) {
        return is ? bits | 1 << i : bits & ~(1 << i);
    }

    private static int bit(boolean is) {
        return is ? 1 : 0;
    }

    // ---- rules that come

    private boolean canBeRule(int kind, int aim, int more, int amount, int by) {
        if (more < 0 || (more & 15) > RANKS || more >> 4 > SOURCES) {
            return false;
        }
        switch (kind) {
            case INSTEAD:
                return ruleOrNull(aim) != null && comingTest.readBits() == 0;
            case OPENS:
            case BARS:
                return isChoice(aim);
            default:
                return isValue(aim) && isWithin(amount, 1000) && (by == NONE || isFactorOfValue(by));
        }
    }

    private boolean isFactorOfValue(int by) {
        int factor = by >> 4;
        return isValue(by & 15) && factor >= 1 && factor <= FACTORS;
    }

    private Rule ruleOf(int kind, int aim, int more, int amount, int by) {
        int number = now.rules;
        switch (kind) {
            case SET:
                return new Sets(number, comingTest, aim, more, amount, by);
            case CAP:
            case CAP_AT_LEAST:
                return new Cap(number, comingTest, kind == CAP, aim, more, amount, by);
            case INSTEAD:
                return new Instead(number, comingTest, aim, more);
            case OPENS:
                return new Opens(OPENS, number, comingTest, aim, more);
            case BARS:
                return new Bars(number, comingTest, aim, more);
            default:
                return new Rule(RULE, number, comingTest, aim, more, amount, by);
        }
    }

    private int entered(Rule r) {
        if (now.rules >= MOST_RULES) {
            return refused(FULL);
        }
        if (r.writes != NONE && closesRing(r.writes, r.readBits())) {
            return refused(IN_A_RING);
        }
        now.addRule(r);
        book.forget();
        return done(r.number);
    }

    // Goes outwards from the aim, a layer of values a step, so that the first layer that is read gives the fewest.
    private boolean closesRing(int aim, int reads) {
        int layer = 1 << aim;
        int seen = 0;
        for (int far = 0; far < MOST_VALUES; far++) {
            ringLayers[far] = layer;
            if ((reads & layer) != 0) {
                keepRing(aim, reads, far);
                return true;
            }
            seen |= layer;
            layer = now.needing(layer) & ~seen;
        }
        return false;
    }

    private void keepRing(int aim, int reads, int far) {
        ringValues[0] = aim;
        int next = reads;
        for (int k = 1; k <= far; k++) {
            int v = leastOf(next & ringLayers[far - k + 1]);
            ringValues[k] = v;
            next = now.needsItself[v];
        }
        ringSize = far + 1;
    }

    private static int leastOf(int values) {
        for (int v = 0; v < MOST_VALUES - 1; v++) {
            if (hasBit(values, v)) {
                return v;
            }
        }
        return MOST_VALUES - 1;
    }

    // ---- the sheet as it is

    private Reckoning reckonedNow() {
        book.reckoning.reckon(now, now.made);
        return book.reckoning;
    }

    private long numberNow(int value) {
        return book.numberOn(value, now.made);
    }

    // ---- rolls

    private long countWays(int count, int sides) {
        Arrays.fill(waysToRoll, 0L);
        waysToRoll[0] = 1;
        long all = 1;
        for (int die = 1; die <= count; die++) {
            all *= sides;
            // From the greatest sum down, as each sum needs the lesser ones of one die fewer.
            for (int sum = waysToRoll.length - 1; sum >= 0; sum--) {
                waysToRoll[sum] = waysOfOneMore(sum, sides);
            }
        }
        return all;
    }

    private long waysOfOneMore(int sum, int sides) {
        long ways = 0;
        for (int side = 1; side <= sides && side <= sum; side++) {
            ways += waysToRoll[sum - side];
        }
        return ways;
    }

    private long waysToReach(int n, long number) {
        long ways = 0;
        for (int sum = 0; sum < waysToRoll.length; sum++) {
            if (sum + number >= n) {
                ways += waysToRoll[sum];
            }
        }
        return ways;
    }

    // A hundred steps are more than any two longs take.
    private static long commonDivisor(long a, long b) {
        long x = a;
        long y = b;
        for (int i = 0; i < 100 && y != 0; i++) {
            long rest = x % y;
            x = y;
            y = rest;
        }
        return x == 0 ? 1 : x;
    }

    // ---- what the host does

    private int takenForKind(Rule r, int kind) {
        if (r == null) {
            return refused(NOTHING_THERE);
        }
        boolean under = kind == RULE || r.kind == kind || (kind == OPENS && r instanceof Opens);
        return under ? done(r.kind) : refused(OTHER_SORT);
    }

    private int readFromShorts(int sheet, int n) {
        if (rowSorts[sheet] == MISSING) {
            return refused(NOTHING_THERE);
        }
        if (rowSorts[sheet] != SHORTS) {
            return refused(OTHER_SORT);
        }
        return n < 0 || n >= rowSizes[sheet] ? refused(OUTSIDE) : done(rows[sheet][n]);
    }

    private int copiedFromBytes(int sheet, int n) {
        if (rowSorts[sheet] == MISSING) {
            return refused(NOTHING_THERE);
        }
        if (rowSorts[sheet] != BYTES) {
            return refused(OTHER_SORT);
        }
        if (n < 0 || 1 + n > rowSizes[sheet] || n + n > 6) {
            return refused(OUTSIDE);
        }
        int sum = 0;
        for (int i = 1; i <= n; i++) {
            sum += rows[sheet][i];
        }
        return done(sum);
    }

    private int putAmongOpens(Rule r) {
        if (r == null) {
            return done(0);
        }
        return r instanceof Opens ? done(r.kind) : refused(MISFIT);
    }

    /** When a rule holds. */
    private static final class Test {
        private final int how;
        private final int of;
        private final int limit;

        Test(int how, int of, int limit) {
            this.how = how;
            this.of = of;
            this.limit = limit;
        }

        boolean holds(int bits, long[] numbers) {
            switch (how) {
                case IF_MADE:
                    return (bits >> of & 1) != 0;
                case IF_NOT_MADE:
                    return (bits >> of & 1) == 0;
                case IF_AT_LEAST:
                    return numbers[of] >= limit;
                case IF_BELOW:
                    return numbers[of] < limit;
                default:
                    return true;
            }
        }

        int readBits() {
            return how == IF_AT_LEAST || how == IF_BELOW ? 1 << of : 0;
        }
    }

    /** A rule; it never changes, so that the image may share it. */
    private static class Rule {
        final int kind;
        final int number;
        final Test test;
        final int aim;
        final int rank;
        final int source;
        /** The value that it writes, or NONE. */
        final int writes;
        private final int told;
        private final int by;
        private final int factor;

        Rule(int kind, int number, Test test, int aim, int more, int told, int by) {
            this.kind = kind;
            this.number = number;
            this.test = test;
            this.aim = aim;
            this.rank = more & 15;
            this.source = more >> 4;
            this.writes = kind <= CAP ? aim : NONE;
            this.told = told;
            this.by = by == NONE ? NONE : by & 15;
            this.factor = by == NONE ? 0 : by >> 4;
        }

        int readBits() {
            return test.readBits() | (by == NONE ? 0 : 1 << by);
        }

        long amountBy(long[] numbers) {
            return by == NONE ? told : told + numbers[by] * factor / 2;
        }

        static void begin(int body, int[] traced) {
            if (traced[0] < MOST_TRACED) {
                traced[0]++;
                traced[traced[0]] = body;
            }
        }

        int give(int x, int[] traced) {
            begin(10, traced);
            return x + rank;
        }

        int fit(int x, int[] traced) {
            begin(11, traced);
            return give(x, traced) * 2;
        }

        int open(int x, int[] traced) {
            begin(12, traced);
            return x - source;
        }

        int tell(int x, int[] traced) {
            begin(13, traced);
            return fit(x, traced) ^ open(x, traced);
        }
    }

    private static final class Typed extends Rule {
        final int type;

        Typed(int number, Test test, int type, int aim, int more, int told, int by) {
            super(TYPED, number, test, aim, more, told, by);
            this.type = type;
        }

        int give(int x, int[] traced) {
            begin(20, traced);
            return super.give(x, traced) + number;
        }
    }

    private static final class Sets extends Rule {
        Sets(int number, Test test, int aim, int more, int told, int by) {
            super(SET, number, test, aim, more, told, by);
        }

        int fit(int x, int[] traced) {
            begin(30, traced);
            return super.fit(x, traced) - give(x, traced);
        }
    }

    private static final class Cap extends Rule {
        final boolean atMost;

        Cap(int number, Test test, boolean atMost, int aim, int more, int told, int by) {
            super(CAP, number, test, aim, more, told, by);
            this.atMost = atMost;
        }

        int tell(int x, int[] traced) {
            begin(40, traced);
            return open(x, traced) - super.tell(x + 1, traced);
        }
    }

    private static final class Instead extends Rule {
        Instead(int number, Test test, int aim, int more) {
            super(INSTEAD, number, test, aim, more, 0, NONE);
        }

        int open(int x, int[] traced) {
            begin(50, traced);
            return super.open(x, traced) * 3;
        }
    }

    private static class Opens extends Rule {
        Opens(int kind, int number, Test test, int aim, int more) {
            super(kind, number, test, aim, more, 0, NONE);
        }

        int open(int x, int[] traced) {
            begin(60, traced);
            return super.open(x, traced) + rank;
        }

        int fit(int x, int[] traced) {
            begin(61, traced);
            return super.fit(x - source, traced);
        }
    }

    private static final class Bars extends Opens {
        Bars(int number, Test test, int aim, int more) {
            super(BARS, number, test, aim, more);
        }

        int give(int x, int[] traced) {
            begin(70, traced);
            return super.give(x, traced) ^ 5;
        }

        int fit(int x, int[] traced) {
            begin(71, traced);
            return super.fit(x, traced) + open(0, traced);
        }
    }

    /** All that an image keeps. */
    private static final class State {
        int values = 0;
        final int[] kinds = new int[MOST_VALUES];
        final int[] bases = new int[MOST_VALUES];
        final int[] spent = new int[MOST_VALUES];
        private final int[] dicePacked = new int[MOST_VALUES];
        /** Of each value those that it needs, as bits: by a rule of its own, and also through others. */
        final int[] needsItself = new int[MOST_VALUES];
        final int[] needsThrough = new int[MOST_VALUES];
        int rules = 0;
        final Rule[] ruleList = new Rule[MOST_RULES];
        int spells = 0;
        private final int[] spellValues = new int[MOST_SPELLS];
        private final int[] spellNumbers = new int[MOST_SPELLS];
        private final int[] spellEnds = new int[MOST_SPELLS];
        int turn = 0;
        int made = 0;
        int free = 0;
        int stacking = 0;

        void copyOf(State other) {
            values = other.values;
            System.arraycopy(other.kinds, 0, kinds, 0, MOST_VALUES);
            System.arraycopy(other.bases, 0, bases, 0, MOST_VALUES);
            System.arraycopy(other.spent, 0, spent, 0, MOST_VALUES);
            System.arraycopy(other.dicePacked, 0, dicePacked, 0, MOST_VALUES);
            System.arraycopy(other.needsItself, 0, needsItself, 0, MOST_VALUES);
            System.arraycopy(other.needsThrough, 0, needsThrough, 0, MOST_VALUES);
            rules = other.rules;
            for (int i = 0; i < MOST_RULES; i++) {
                ruleList[i] = other.ruleList[i];
            }
            spells = other.spells;
            System.arraycopy(other.spellValues, 0, spellValues, 0, MOST_SPELLS);
            System.arraycopy(other.spellNumbers, 0, spellNumbers, 0, MOST_SPELLS);
            System.arraycopy(other.spellEnds, 0, spellEnds, 0, MOST_SPELLS);
            turn = other.turn;
            made = other.made;
            free = other.free;
            stacking = other.stacking;
        }

        void addValue(int kind, int base, int packed) {
            kinds[values] = kind;
            bases[values] = base;
            spent[values] = 0;
            dicePacked[values] = packed;
            needsItself[values] = 0;
            needsThrough[values] = 0;
            values++;
        }

        int diceCount(int value) {
            return dicePacked[value] & 7;
        }

        int diceSides(int value) {
            return dicePacked[value] >> 3;
        }

        void addRule(Rule r) {
            ruleList[rules] = r;
            rules++;
            if (r.writes != NONE) {
                addNeeds(r.writes, r.readBits());
            }
        }

        private void addNeeds(int w, int reads) {
            needsItself[w] |= reads;
            int more = reads;
            for (int v = 0; v < values; v++) {
                if (hasBit(reads, v)) {
                    more |= needsThrough[v];
                }
            }
            for (int v = 0; v < values; v++) {
                if (v == w || hasBit(needsThrough[v], w)) {
                    needsThrough[v] |= more;
                }
            }
        }

        /** The values that need one of these by a rule of their own. */
        int needing(int these) {
            int found = 0;
            for (int v = 0; v < values; v++) {
                if ((needsItself[v] & these) != 0) {
                    found |= 1 << v;
                }
            }
            return found;
        }

        void addSpell(int value, int number, int end) {
            spellValues[spells] = value;
            spellNumbers[spells] = number;
            spellEnds[spells] = end;
            spells++;
        }

        int lastingSpells() {
            int lasting = 0;
            for (int k = 0; k < spells; k++) {
                if (turn < spellEnds[k]) {
                    lasting++;
                }
            }
            return lasting;
        }

        long spellsOn(int value) {
            long sum = 0;
            for (int k = 0; k < spells; k++) {
                if (spellValues[k] == value && turn < spellEnds[k]) {
                    sum += spellNumbers[k];
                }
            }
            return sum;
        }
    }

    /** Works out one sheet: its numbers, how each rule is, and which choices it opens. */
    private static final class Reckoning {
        final long[] numbers = new long[MOST_VALUES];
        final long[] amounts = new long[MOST_RULES];
        final int[] hows = new int[MOST_RULES];
        final int[] beaters = new int[MOST_RULES];
        int there = 0;
        int quarrels = 0;
        int opened = 0;
        // The values in an order in which each comes after those that it needs, and the rules that write them.
        private final int[] order = new int[MOST_VALUES];
        private final int[] plan = new int[MOST_RULES];
        private final int[] planStarts = new int[MOST_VALUES + 1];
        // The rules that hold for the value at hand.
        private final Rule[] holding = new Rule[MOST_RULES];
        private int held = 0;
        private final int[] firstOfSource = new int[SOURCES + 1];
        private final int[] highOfType = new int[TYPES + 1];
        private final int[] lowOfType = new int[TYPES + 1];

        // A value needs more values than each that it needs does, so counting them gives the order.
        void arrange(State s) {
            int place = 0;
            int planned = 0;
            for (int many = 0; many < s.values; many++) {
                for (int v = 0; v < s.values; v++) {
                    if (Integer.bitCount(s.needsThrough[v]) == many) {
                        order[place] = v;
                        place++;
                        planned = plannedWith(s, v, planned);
                        planStarts[place] = planned;
                    }
                }
            }
        }

        private int plannedWith(State s, int value, int planned) {
            int size = planned;
            for (int i = 0; i < s.rules; i++) {
                if (s.ruleList[i].writes == value) {
                    plan[size] = i;
                    size++;
                }
            }
            return size;
        }

        void reckon(State s, int bits) {
            there = thereOn(s, bits);
            quarrels = 0;
            for (int place = 0; place < s.values; place++) {
                int v = order[place];
                gather(s, bits, planStarts[place], planStarts[place + 1]);
                long n = baseOrSet(s, v);
                markTwice();
                beatTyped(s);
                n = capped(n + boons() + s.spellsOn(v));
                if (s.kinds[v] == POOL) {
                    n -= s.spent[v];
                } else if (s.kinds[v] == TRUTH && n != 0) {
                    n = 1;
                }
                numbers[v] = n;
            }
            opened = openedOn(s, bits);
        }

        private int thereOn(State s, int bits) {
            int found = (1 << s.rules) - 1;
            for (int i = s.rules - 1; i >= 0; i--) {
                Rule r = s.ruleList[i];
                if (r.kind == INSTEAD && hasBit(found, i) && r.test.holds(bits, numbers)) {
                    found &= ~(1 << r.aim);
                }
            }
            return found;
        }

        private void gather(State s, int bits, int from, int to) {
            held = 0;
            for (int p = from; p < to; p++) {
                int i = plan[p];
                Rule r = s.ruleList[i];
                amounts[i] = r.amountBy(numbers);
                beaters[i] = NONE;
                if (!hasBit(there, i)) {
                    hows[i] = NOT_THERE;
                } else if (!r.test.holds(bits, numbers)) {
                    hows[i] = NOT_HOLDING;
                } else {
                    hows[i] = COUNTS;
                    holding[held] = r;
                    held++;
                }
            }
        }

        private void beat(int number, int how, int beater) {
            hows[number] = how;
            beaters[number] = beater;
        }

        private long baseOrSet(State s, int value) {
            Rule best = null;
            for (int k = 0; k < held; k++) {
                Rule r = holding[k];
                if (r.kind == SET && (best == null || r.rank > best.rank)) {
                    best = r;
                }
            }
            if (best == null) {
                return s.bases[value];
            }
            for (int k = 0; k < held; k++) {
                Rule r = holding[k];
                if (r.kind == SET && r.number != best.number) {
                    beat(r.number, BEATEN, best.number);
                    if (r.rank == best.rank && amounts[r.number] != amounts[best.number]) {
                        quarrels |= 1 << value;
                    }
                }
            }
            return amounts[best.number];
        }

        private void markTwice() {
            Arrays.fill(firstOfSource, NONE);
            for (int k = 0; k < held; k++) {
                Rule r = holding[k];
                if (r.kind > TYPED || r.source == 0) {
                    continue;
                }
                if (firstOfSource[r.source] == NONE) {
                    firstOfSource[r.source] = r.number;
                } else {
                    beat(r.number, TWICE, firstOfSource[r.source]);
                }
            }
        }

        private void beatTyped(State s) {
            Arrays.fill(highOfType, NONE);
            Arrays.fill(lowOfType, NONE);
            for (int k = 0; k < held; k++) {
                if (holding[k] instanceof Typed t && hows[t.number] == COUNTS) {
                    compare(t);
                }
            }
            for (int k = 0; k < held; k++) {
                if (holding[k] instanceof Typed t && hows[t.number] == COUNTS && !hasBit(s.stacking, t.type)) {
                    int best = bestLike(t);
                    if (best != t.number) {
                        beat(t.number, BEATEN, best);
                    }
                }
            }
        }

        private void compare(Typed t) {
            long amount = amounts[t.number];
            int high = highOfType[t.type];
            int low = lowOfType[t.type];
            if (amount > 0 && (high == NONE || amount > amounts[high])) {
                highOfType[t.type] = t.number;
            }
            if (amount < 0 && (low == NONE || amount < amounts[low])) {
                lowOfType[t.type] = t.number;
            }
        }

        private int bestLike(Typed t) {
            long amount = amounts[t.number];
            if (amount == 0) {
                return NONE;
            }
            return amount > 0 ? highOfType[t.type] : lowOfType[t.type];
        }

        private long boons() {
            long sum = 0;
            for (int k = 0; k < held; k++) {
                Rule r = holding[k];
                if (r.kind <= TYPED && hows[r.number] == COUNTS) {
                    sum += amounts[r.number];
                }
            }
            return sum;
        }

        private long capped(long uncapped) {
            long n = uncapped;
            for (int k = 0; k < held; k++) {
                if (holding[k] instanceof Cap c && !c.atMost) {
                    hows[c.number] = n < amounts[c.number] ? COUNTS : BEATEN;
                    n = Math.max(n, amounts[c.number]);
                }
            }
            for (int k = 0; k < held; k++) {
                if (holding[k] instanceof Cap c && c.atMost) {
                    hows[c.number] = n > amounts[c.number] ? COUNTS : BEATEN;
                    n = Math.min(n, amounts[c.number]);
                }
            }
            return n;
        }

        private int openedOn(State s, int bits) {
            int opens = s.free;
            int bars = 0;
            for (int i = 0; i < s.rules; i++) {
                Rule r = s.ruleList[i];
                if (r instanceof Opens && hasBit(there, i) && r.test.holds(bits, numbers)) {
                    if (r.kind == BARS) {
                        bars |= 1 << r.aim;
                    } else {
                        opens |= 1 << r.aim;
                    }
                }
            }
            return opens & ~bars;
        }
    }

    /** A page for every set of choices, written when it is first asked for after a change. */
    private static final class Book {
        private final State state;
        final Reckoning reckoning = new Reckoning();
        private int edition = 1;
        private final int[] editions = new int[SETS_OF_CHOICES];
        private final int[] opened = new int[SETS_OF_CHOICES];
        private final long[] numbers = new long[SETS_OF_CHOICES * MOST_VALUES];
        // The pairs of numbers that none of those seen so far betters.
        private final long[] frontFirsts = new long[SETS_OF_CHOICES];
        private final long[] frontSeconds = new long[SETS_OF_CHOICES];
        private int frontSize = 0;
        private final boolean[] leading = new boolean[SETS_OF_CHOICES];

        Book(State state) {
            this.state = state;
        }

        void forget() {
            edition++;
            reckoning.arrange(state);
        }

        private void write(int bits) {
            if (editions[bits] == edition) {
                return;
            }
            reckoning.reckon(state, bits);
            opened[bits] = reckoning.opened;
            System.arraycopy(reckoning.numbers, 0, numbers, bits * MOST_VALUES, MOST_VALUES);
            editions[bits] = edition;
        }

        long numberOn(int value, int bits) {
            write(bits);
            return numbers[bits * MOST_VALUES + value];
        }

        boolean isOpen(int choice, int bits) {
            int others = withBit(bits, choice, false);
            write(others);
            return hasBit(opened[others], choice);
        }

        boolean isLawful(int bits) {
            for (int c = 0; c < CHOICES; c++) {
                if (hasBit(bits, c)) {
                    int others = withBit(bits, c, false);
                    write(others);
                    if (!hasBit(opened[others], c)) {
                        return false;
                    }
                }
            }
            return true;
        }

        int lawfulSheets() {
            int found = 0;
            for (int bits = 0; bits < SETS_OF_CHOICES; bits++) {
                if (isLawful(bits)) {
                    found++;
                }
            }
            return found;
        }

        // From the greatest set down, so that of like ones the greatest stays.
        int mended(int made) {
            int best = 0;
            for (int bits = SETS_OF_CHOICES - 1; bits > 0; bits--) {
                boolean within = (bits & ~made) == 0;
                if (within && Integer.bitCount(bits) > Integer.bitCount(best) && isLawful(bits)) {
                    best = bits;
                }
            }
            return best;
        }

        int bestSheet(int value, int must, int without, boolean least) {
            int best = NONE;
            if (!isSet(must) || !isSet(without)) {
                return best;
            }
            for (int bits = 0; bits < SETS_OF_CHOICES; bits++) {
                if ((bits & must) != must || (bits & without) != 0 || !isLawful(bits)) {
                    continue;
                }
                if (best == NONE || isBetter(numberOn(value, bits), numberOn(value, best), least)) {
                    best = bits;
                }
            }
            return best;
        }

        private static boolean isBetter(long a, long b, boolean least) {
            return least ? a < b : a > b;
        }

        int unbettered(int v, int w) {
            frontSize = 0;
            for (int bits = 0; bits < SETS_OF_CHOICES; bits++) {
                if (isLawful(bits)) {
                    joinFront(numberOn(v, bits), numberOn(w, bits));
                }
            }
            return frontSize;
        }

        private void joinFront(long a, long b) {
            for (int k = 0; k < frontSize; k++) {
                if (frontFirsts[k] >= a && frontSeconds[k] >= b) {
                    return;
                }
            }
            int stay = 0;
            for (int k = 0; k < frontSize; k++) {
                if (frontFirsts[k] > a || frontSeconds[k] > b) {
                    frontFirsts[stay] = frontFirsts[k];
                    frontSeconds[stay] = frontSeconds[k];
                    stay++;
                }
            }
            frontFirsts[stay] = a;
            frontSeconds[stay] = b;
            frontSize = stay + 1;
        }

        /** Marks the sheets from which lawful steps lead to this set. */
        void markLeading(int goal) {
            for (int bits = SETS_OF_CHOICES - 1; bits >= 0; bits--) {
                boolean within = (bits & ~goal) == 0;
                leading[bits] = within && (bits == goal || leastStep(bits, goal) != NONE) && isLawful(bits);
            }
        }

        private int leastStep(int bits, int goal) {
            for (int c = 0; c < CHOICES; c++) {
                if (hasBit(goal & ~bits, c) && leading[withBit(bits, c, true)]) {
                    return c;
                }
            }
            return NONE;
        }

        int stepOfWay(int goal, int i) {
            int bits = 0;
            int step = leading[0] ? leastStep(0, goal) : NONE;
            for (int k = 0; k < i && step != NONE; k++) {
                bits = withBit(bits, step, true);
                step = leastStep(bits, goal);
            }
            return step;
        }
    }
}
