import java.util.ArrayList;
import java.util.Collections;
import java.util.List;
import java.util.TreeSet;

/**
 * The document once more, written straight from its words and without care for speed: RandomRunsTest
 * holds HeroSheet against it. It shares no code and no way of working with HeroSheet.
 */
final class PlainSheet {
    private static final long NO = -1000000000000L;

    private static final class Val {
        int kind;
        int base;
        int spent;
        int count;
        int sides;

        Val copy() {
            Val c = new Val();
            c.kind = kind;
            c.base = base;
            c.spent = spent;
            c.count = count;
            c.sides = sides;
            return c;
        }
    }

    private static final class Rul {
        int n;
        int kind;
        int aim;
        int rank;
        int source;
        int type;
        boolean atLeast;
        int how;
        int of;
        int limit;
        int told;
        int by = -1;
        int factor;

        List<Integer> reads() {
            List<Integer> r = new ArrayList<>();
            if (how >= 3) {
                r.add(of);
            }
            if (by >= 0) {
                r.add(by);
            }
            return r;
        }
    }

    private static final class All {
        List<Val> values = new ArrayList<>();
        List<Rul> rules = new ArrayList<>();
        List<int[]> spells = new ArrayList<>();
        boolean[] made = new boolean[8];
        boolean[] free = new boolean[8];
        boolean[] stacks = new boolean[6];
        int turn;

        All copy() {
            All c = new All();
            for (Val v : values) {
                c.values.add(v.copy());
            }
            c.rules.addAll(rules);
            c.spells.addAll(spells);
            c.made = made.clone();
            c.free = free.clone();
            c.stacks = stacks.clone();
            c.turn = turn;
            return c;
        }
    }

    private All a = new All();
    private All image;
    private int backs;
    private int status;
    private int how;
    private int of;
    private int limit;
    private List<Integer> ring = new ArrayList<>();
    private List<Integer> trace = new ArrayList<>();
    private final int[][] sheets = new int[4][];
    private final int[] sorts = new int[4];

    private int no(int why) {
        status = why;
        return -1;
    }

    private int yes(int answer) {
        status = 0;
        return answer;
    }

    private static boolean in(long n, long from, long to) {
        return from <= n && n <= to;
    }

    private boolean isV(int v) {
        return in(v, 0, a.values.size() - 1);
    }

    private boolean isR(int r) {
        return in(r, 0, a.rules.size() - 1);
    }

    private int madeBits() {
        int bits = 0;
        for (int c = 0; c < 8; c++) {
            bits += a.made[c] ? 1 << c : 0;
        }
        return bits;
    }

    private static boolean has(int bits, int c) {
        return bits / (1 << c) % 2 == 1;
    }

    // ---- a sheet

    private final class One {
        final int bits;
        final Long[] known = new Long[10];
        final boolean[] quarrel = new boolean[10];
        final int[] state = new int[30];
        final int[] beater = new int[30];

        One(int bits) {
            this.bits = bits;
        }

        boolean there(Rul r) {
            for (Rul j : a.rules) {
                if (j.kind == 4 && j.aim == r.n && there(j) && holds(j)) {
                    return false;
                }
            }
            return true;
        }

        boolean holds(Rul r) {
            return r.how == 0
                || r.how == 1 && has(bits, r.of)
                || r.how == 2 && !has(bits, r.of)
                || r.how == 3 && number(r.of) >= r.limit
                || r.how == 4 && number(r.of) < r.limit;
        }

        long amount(Rul r) {
            return r.told + (r.by < 0 ? 0 : number(r.by) * r.factor / 2);
        }

        long number(int v) {
            if (known[v] == null) {
                known[v] = work(v);
            }
            return known[v];
        }

        private long work(int v) {
            Val val = a.values.get(v);
            List<Rul> live = new ArrayList<>();
            for (Rul r : a.rules) {
                if (r.kind <= 3 && r.aim == v) {
                    beater[r.n] = -1;
                    state[r.n] = !there(r) ? 0 : !holds(r) ? 1 : 2;
                    if (state[r.n] == 2) {
                        live.add(r);
                    }
                }
            }
            long n = val.base;
            Rul set = null;
            for (Rul r : live) {
                if (r.kind == 2 && live.stream().noneMatch(o -> o.kind == 2
                        && (o.rank > r.rank || o.rank == r.rank && o.n < r.n))) {
                    set = r;
                    n = amount(r);
                }
            }
            for (Rul r : live) {
                if (r.kind == 2 && r != set) {
                    state[r.n] = 4;
                    beater[r.n] = set.n;
                    quarrel[v] |= r.rank == set.rank && amount(r) != amount(set);
                }
            }
            List<Rul> looked = new ArrayList<>();
            for (Rul r : live) {
                if (r.kind <= 1) {
                    Rul first = null;
                    for (Rul l : looked) {
                        first = first == null && r.source != 0 && l.source == r.source ? l : first;
                    }
                    if (first == null) {
                        looked.add(r);
                    } else {
                        state[r.n] = 3;
                        beater[r.n] = first.n;
                    }
                }
            }
            for (Rul r : looked) {
                if (r.kind == 1 && !a.stacks[r.type]) {
                    Rul best = bestOf(looked, r);
                    if (best != r) {
                        state[r.n] = 4;
                        beater[r.n] = best == null ? -1 : best.n;
                        continue;
                    }
                }
                n += amount(r);
            }
            for (int[] s : a.spells) {
                n += s[0] == v && a.turn < s[2] ? s[1] : 0;
            }
            for (int pass = 0; pass < 2; pass++) {
                for (Rul r : live) {
                    if (r.kind == 3 && r.atLeast == (pass == 0)) {
                        boolean changes = r.atLeast ? n < amount(r) : n > amount(r);
                        state[r.n] = changes ? 2 : 4;
                        n = changes ? amount(r) : n;
                    }
                }
            }
            if (val.kind == 2) {
                n -= val.spent;
            }
            return val.kind == 4 ? (n == 0 ? 0 : 1) : n;
        }

        private Rul bestOf(List<Rul> looked, Rul like) {
            int sign = Long.signum(amount(like));
            Rul best = null;
            for (Rul r : looked) {
                if (sign != 0 && r.kind == 1 && r.type == like.type && Long.signum(amount(r)) == sign
                        && (best == null || sign * amount(r) > sign * amount(best))) {
                    best = r;
                }
            }
            return best;
        }

        boolean opens(int c) {
            boolean open = a.free[c];
            boolean bar = false;
            for (Rul r : a.rules) {
                if (r.kind >= 5 && r.aim == c && there(r) && holds(r)) {
                    open |= r.kind == 5;
                    bar |= r.kind == 6;
                }
            }
            return open && !bar;
        }
    }

    private One now() {
        One o = new One(madeBits());
        for (int v = 0; v < a.values.size(); v++) {
            o.number(v);
        }
        return o;
    }

    private boolean open(int c, int bits) {
        return new One(has(bits, c) ? bits - (1 << c) : bits).opens(c);
    }

    private boolean isLawful(int bits) {
        for (int c = 0; c < 8; c++) {
            if (has(bits, c) && !open(c, bits)) {
                return false;
            }
        }
        return true;
    }

    // ---- the face

    int value(int kind, int base, int more) {
        boolean dice = kind == 3;
        if (!in(kind, 0, 4) || !in(base, -99, 99)
                || dice && (more < 0 || !in(more % 8, 1, 5) || !in(more / 8, 2, 12))) {
            return no(1);
        }
        if (a.values.size() == 10) {
            return no(2);
        }
        Val v = new Val();
        v.kind = kind;
        v.base = base;
        v.count = dice ? more % 8 : 0;
        v.sides = dice ? more / 8 : 0;
        a.values.add(v);
        return yes(a.values.size() - 1);
    }

    private static int change(boolean[] row, int i, boolean is) {
        boolean was = row[i];
        row[i] = is;
        return was != is ? 1 : 0;
    }

    int free(int choice, boolean is) {
        return in(choice, 0, 7) ? yes(change(a.free, choice, is)) : no(1);
    }

    int test(int how, int of) {
        if (!in(how, 0, 2) || how > 0 && !in(of, 0, 7)) {
            return no(1);
        }
        this.how = how;
        this.of = of;
        return yes(1);
    }

    int testValue(int of, boolean below, int n) {
        if (!isV(of) || !in(n, -1000, 1000)) {
            return no(1);
        }
        this.how = below ? 4 : 3;
        this.of = of;
        this.limit = n;
        return yes(1);
    }

    int rule(int kind, int aim, int more, int amount, int by) {
        return kind == 1 || !in(kind, 0, 7) ? no(1) : enter(kind, 0, aim, more, amount, by);
    }

    int typed(int type, int aim, int more, int amount, int by) {
        return in(type, 1, 5) ? enter(1, type, aim, more, amount, by) : no(1);
    }

    private int enter(int kind, int type, int aim, int more, int amount, int by) {
        boolean writes = kind <= 3 || kind == 7;
        boolean good = more >= 0 && more % 16 <= 9 && more / 16 <= 20;
        if (writes) {
            good &= isV(aim) && in(amount, -1000, 1000);
            good &= by == -1 || by >= 0 && isV(by % 16) && in(by / 16, 1, 9);
        } else {
            good &= kind == 4 ? isR(aim) && how < 3 : in(aim, 0, 7);
        }
        if (!good) {
            return no(1);
        }
        if (a.rules.size() == 30) {
            return no(2);
        }
        Rul r = new Rul();
        r.n = a.rules.size();
        r.kind = kind == 7 ? 3 : kind;
        r.atLeast = kind == 7;
        r.type = type;
        r.aim = aim;
        r.rank = more % 16;
        r.source = more / 16;
        r.how = how;
        r.of = of;
        r.limit = limit;
        if (writes) {
            r.told = amount;
            r.by = by < 0 ? -1 : by % 16;
            r.factor = by < 0 ? 0 : by / 16;
            List<List<Integer>> rings = new ArrayList<>();
            a.rules.add(r);
            findRings(new ArrayList<>(List.of(aim)), rings);
            a.rules.remove(r.n);
            if (!rings.isEmpty()) {
                rings.sort((p, q) -> p.size() != q.size() ? p.size() - q.size() : compare(p, q));
                ring = rings.get(0);
                return no(4);
            }
        }
        a.rules.add(r);
        return yes(r.n);
    }

    private static int compare(List<Integer> p, List<Integer> q) {
        for (int i = 0; i < p.size(); i++) {
            if (!p.get(i).equals(q.get(i))) {
                return p.get(i) - q.get(i);
            }
        }
        return 0;
    }

    private TreeSet<Integer> direct(int w) {
        TreeSet<Integer> found = new TreeSet<>();
        for (Rul r : a.rules) {
            if (r.kind <= 3 && r.aim == w) {
                found.addAll(r.reads());
            }
        }
        return found;
    }

    private void findRings(List<Integer> path, List<List<Integer>> rings) {
        for (int v : direct(path.get(path.size() - 1))) {
            if (v == path.get(0)) {
                rings.add(new ArrayList<>(path));
            } else if (!path.contains(v)) {
                path.add(v);
                findRings(path, rings);
                path.remove(path.size() - 1);
            }
        }
    }

    int stack(int type, boolean is) {
        return in(type, 1, 5) ? yes(change(a.stacks, type, is)) : no(1);
    }

    int make(int choice, boolean is) {
        if (!in(choice, 0, 7)) {
            return no(1);
        }
        return change(a.made, choice, is) == 0 ? no(3) : yes(Integer.bitCount(madeBits()));
    }

    int spell(int value, int number, int n) {
        if (!isV(value) || !in(number, -20, 20) || !in(n, 1, 20)) {
            return no(1);
        }
        if (a.spells.size() == 10) {
            return no(2);
        }
        a.spells.add(new int[] {value, number, a.turn + n});
        return yes(a.spells.size());
    }

    int turn() {
        if (a.turn == 1000) {
            return no(2);
        }
        a.turn++;
        return yes((int) a.spells.stream().filter(s -> s[2] == a.turn).count());
    }

    int spend(int value, int n) {
        if (!isV(value) || a.values.get(value).kind != 2 || !in(n, 1, 1000)) {
            return no(1);
        }
        a.values.get(value).spent += n;
        long left = now().number(value);
        if (left < 0) {
            a.values.get(value).spent -= n;
            return no(3);
        }
        return yes((int) left);
    }

    int rest() {
        int had = 0;
        for (Val v : a.values) {
            had += v.spent > 0 ? 1 : 0;
            v.spent = 0;
        }
        return yes(had);
    }

    int image() {
        image = a.copy();
        return yes(1);
    }

    int back() {
        if (backs == 20) {
            return no(2);
        }
        if (image == null) {
            return no(3);
        }
        backs++;
        a = image.copy();
        how = 0;
        return yes(a.turn);
    }

    int valueTold(int value, int what) {
        if (!isV(value) || !in(what, 0, 5)) {
            return -1000;
        }
        Val v = a.values.get(value);
        int[] told = {v.kind, v.base, v.spent, v.count, v.sides, now().quarrel[value] ? 1 : 0};
        return told[what];
    }

    long number(int value, int bits) {
        if (!isV(value) || !in(bits, -1, 255)) {
            return NO;
        }
        return new One(bits < 0 ? madeBits() : bits).number(value);
    }

    int ruleTold(int rule, int what) {
        if (!isR(rule) || !in(what, 0, 8)) {
            return -1;
        }
        Rul r = a.rules.get(rule);
        One o = now();
        int[] told = {r.kind, r.aim, r.rank, r.source, r.type, o.there(r) ? 1 : 0, o.holds(r) ? 1 : 0,
            r.kind > 3 ? -1 : o.state[rule], r.kind > 3 ? -1 : o.beater[rule]};
        return told[what];
    }

    long amount(int rule) {
        return isR(rule) && a.rules.get(rule).kind <= 3 ? now().amount(a.rules.get(rule)) : NO;
    }

    int ring(int i) {
        return in(i, 0, ring.size() - 1) ? ring.get(i) : -1;
    }

    int needs(int w, int v) {
        return isV(w) && isV(v) ? (reaches(w, v) ? 1 : 0) : -1;
    }

    private boolean reaches(int w, int v) {
        for (int u : direct(w)) {
            if (u == v || reaches(u, v)) {
                return true;
            }
        }
        return false;
    }

    int choice(int choice, int what) {
        if (!in(choice, 0, 7) || !in(what, 0, 2)) {
            return -1;
        }
        boolean told = what == 0 ? a.made[choice] : what == 1 ? a.free[choice] : open(choice, madeBits());
        return told ? 1 : 0;
    }

    int lawful(int bits) {
        return in(bits, -1, 255) ? (isLawful(bits < 0 ? madeBits() : bits) ? 1 : 0) : -1;
    }

    int mend() {
        int made = madeBits();
        int best = 0;
        for (int b = 0; b < 256; b++) {
            if ((b | made) == made && Integer.bitCount(b) >= Integer.bitCount(best) && isLawful(b)) {
                best = b;
            }
        }
        return best;
    }

    private List<long[]> sheetsWith(int value, int must, int without) {
        List<long[]> found = new ArrayList<>();
        if (isV(value) && in(must, 0, 255) && in(without, 0, 255)) {
            for (int b = 0; b < 256; b++) {
                if ((b & must) == must && (b & without) == 0 && isLawful(b)) {
                    found.add(new long[] {new One(b).number(value), b});
                }
            }
        }
        return found;
    }

    long most(int value, int must, int without, boolean least) {
        List<Long> numbers = new ArrayList<>();
        for (long[] s : sheetsWith(value, must, without)) {
            numbers.add(s[0]);
        }
        return numbers.isEmpty() ? NO : least ? Collections.min(numbers) : Collections.max(numbers);
    }

    int seek(int value, int must, int without, boolean least) {
        long best = most(value, must, without, least);
        for (long[] s : sheetsWith(value, must, without)) {
            if (s[0] == best) {
                return (int) s[1];
            }
        }
        return -1;
    }

    int both(int v, int w) {
        if (!isV(v) || !isV(w)) {
            return -1;
        }
        List<List<Long>> pairs = new ArrayList<>();
        for (int b = 0; b < 256; b++) {
            if (isLawful(b)) {
                One o = new One(b);
                List<Long> p = List.of(o.number(v), o.number(w));
                if (!pairs.contains(p)) {
                    pairs.add(p);
                }
            }
        }
        int best = 0;
        for (List<Long> p : pairs) {
            boolean bettered = false;
            for (List<Long> q : pairs) {
                bettered |= !q.equals(p) && q.get(0) >= p.get(0) && q.get(1) >= p.get(1);
            }
            best += bettered ? 0 : 1;
        }
        return best;
    }

    int way(int bits, int i) {
        if (!in(bits, 0, 255)) {
            return -1;
        }
        boolean[] lawful = new boolean[256];
        for (int b = 0; b < 256; b++) {
            lawful[b] = (b | bits) == bits && isLawful(b);
        }
        List<Integer> way = new ArrayList<>();
        return walk(0, bits, lawful, way) && in(i, 0, way.size() - 1) ? way.get(i) : -1;
    }

    private boolean walk(int at, int goal, boolean[] lawful, List<Integer> way) {
        if (!lawful[at]) {
            return false;
        }
        if (at == goal) {
            return true;
        }
        for (int c = 0; c < 8; c++) {
            if (has(goal, c) && !has(at, c)) {
                way.add(c);
                if (walk(at + (1 << c), goal, lawful, way)) {
                    return true;
                }
                way.remove(way.size() - 1);
            }
        }
        return false;
    }

    private List<Long> rolls(int value) {
        List<Long> sums = List.of(now().number(value));
        for (int d = 0; d < a.values.get(value).count; d++) {
            List<Long> more = new ArrayList<>();
            for (long s : sums) {
                for (int side = 1; side <= a.values.get(value).sides; side++) {
                    more.add(s + side);
                }
            }
            sums = more;
        }
        return sums;
    }

    private static long part(long above, long below, boolean upper) {
        for (long d = Math.min(Math.max(Math.abs(above), 1), below); d > 1; d--) {
            if (above % d == 0 && below % d == 0) {
                return (upper ? above : below) / d;
            }
        }
        return above == 0 ? (upper ? 0 : 1) : upper ? above : below;
    }

    long dice(int value, int what) {
        if (!isV(value) || a.values.get(value).kind != 3 || !in(what, 0, 3)) {
            return NO;
        }
        List<Long> all = rolls(value);
        if (what < 2) {
            return what == 0 ? Collections.min(all) : Collections.max(all);
        }
        long sum = Collections.min(all) + Collections.max(all);
        return part(sum, 2, what == 2);
    }

    long chance(int value, int n, boolean best, int what) {
        if (!isV(value) || a.values.get(value).kind != 3 || !in(what, 0, 1)) {
            return NO;
        }
        List<Long> all = rolls(value);
        long total = all.size();
        long low = all.stream().filter(s -> s < n).count();
        long above = total - low;
        long below = total;
        if (best) {
            above = total * total - low * low;
            below = total * total;
        }
        java.math.BigInteger d = java.math.BigInteger.valueOf(above).gcd(java.math.BigInteger.valueOf(below));
        return (what == 0 ? above : below) / d.longValue();
    }

    int count(int what) {
        switch (what) {
            case 0: return a.values.size();
            case 1: return a.rules.size();
            case 2: return a.spells.size();
            case 3: return (int) a.spells.stream().filter(s -> a.turn < s[2]).count();
            case 4: return a.turn;
            case 5: return madeBits();
            case 6:
                int lawful = 0;
                for (int b = 0; b < 256; b++) {
                    lawful += isLawful(b) ? 1 : 0;
                }
                return lawful;
            case 7: return trace.size();
            case 8: return ring.size();
            default: return -1;
        }
    }

    // ---- acts, by a table of bodies: the kind above, and who has which body

    private static final int[] ABOVE = {-1, 0, 0, 0, 0, 0, 5};
    private static final int[][] BODY = {
        {10, 11, 12, 13}, {20, 0, 0, 0}, {0, 30, 0, 0}, {0, 0, 0, 40}, {0, 0, 50, 0}, {0, 61, 60, 0}, {70, 71, 0, 0}};

    private int run(Rul r, int from, int act, int x) {
        int kind = from;
        while (BODY[kind][act] == 0) {
            kind = ABOVE[kind];
        }
        int body = BODY[kind][act];
        if (trace.size() < 50) {
            trace.add(body);
        }
        int up = ABOVE[kind];
        int left;
        switch (body) {
            case 10: return x + r.rank;
            case 11: return run(r, r.kind, 0, x) * 2;
            case 12: return x - r.source;
            case 13:
                left = run(r, r.kind, 1, x);
                return left ^ run(r, r.kind, 2, x);
            case 20: return run(r, up, 0, x) + r.n;
            case 30:
                left = run(r, up, 1, x);
                return left - run(r, r.kind, 0, x);
            case 40:
                left = run(r, r.kind, 2, x);
                return left - run(r, up, 3, x + 1);
            case 50: return run(r, up, 2, x) * 3;
            case 60: return run(r, up, 2, x) + r.rank;
            case 61: return run(r, up, 1, x - r.source);
            case 70: return run(r, up, 0, x) ^ 5;
            default:
                left = run(r, up, 1, x);
                return left + run(r, r.kind, 2, 0);
        }
    }

    int act(int rule, int act, int x) {
        if (!isR(rule) || !in(act, 0, 3)) {
            return no(1);
        }
        trace = new ArrayList<>();
        return yes(run(a.rules.get(rule), a.rules.get(rule).kind, act, x));
    }

    int trace(int i) {
        return in(i, 0, trace.size() - 1) ? trace.get(i) : -1;
    }

    int sheet(int sheet, int sort, int n) {
        if (!in(sheet, 0, 3) || !in(sort, -1, 2) || sort >= 0 && !in(n, 0, 40)) {
            return no(1);
        }
        sheets[sheet] = sort < 0 ? null : new int[n];
        sorts[sheet] = sort;
        return yes(1);
    }

    int cell(int sheet, int i, int v) {
        if (!in(sheet, 0, 3) || !in(v, -1000, 1000)) {
            return no(1);
        }
        if (sheets[sheet] == null) {
            return no(10);
        }
        if (!in(i, 0, sheets[sheet].length - 1)) {
            return no(12);
        }
        int cut = Math.floorMod(v, 256);
        sheets[sheet][i] = sorts[sheet] > 0 ? v : cut > 127 ? cut - 256 : cut;
        return yes(1);
    }

    int row(int sheet, int sort, int i) {
        if (!in(sheet, 0, 3) || !in(sort, 0, 2)) {
            return no(1);
        }
        if (a.rules.size() == 30) {
            return no(2);
        }
        int[] s = sheets[sheet];
        if (s == null) {
            return no(10);
        }
        if (sorts[sheet] != sort) {
            return no(11);
        }
        if (!in(i, 0, s.length - 1) || !in(i + 2, 0, s.length - 1)) {
            return no(12);
        }
        if (!isV(s[i]) || !in(s[i + 2], 0, 20)) {
            return no(3);
        }
        return enter(0, 0, s[i], s[i + 2] * 16, s[i + 1], -1);
    }

    int forge(int what, int n, int k) {
        if (!in(what, 0, 6) || !in(n, -100, 100) || !in(k, -100, 100)) {
            return no(1);
        }
        int number = Math.floorMod(k, 30);
        Rul r = isR(number) ? a.rules.get(number) : null;
        int[] s = sheets[Math.floorMod(k, 4)];
        int sort = s == null ? -1 : sorts[Math.floorMod(k, 4)];
        switch (what) {
            case 0:
                if (r == null) {
                    return no(10);
                }
                for (int kind = r.kind; kind >= 0; kind = ABOVE[kind]) {
                    if (kind == Math.floorMod(n, 7)) {
                        return yes(r.kind);
                    }
                }
                return no(11);
            case 1:
                return n < 0 ? no(13) : yes(n);
            case 2:
                return s == null ? no(10) : sort != 1 ? no(11) : !in(n, 0, s.length - 1) ? no(12) : yes(s[n]);
            case 3:
                if (s == null || sort != 0) {
                    return no(s == null ? 10 : 11);
                }
                int[] six = new int[6];
                try {
                    System.arraycopy(s, 1, six, n, n);
                } catch (IndexOutOfBoundsException e) {
                    return no(12);
                }
                return yes(java.util.Arrays.stream(six).sum());
            case 4:
                return r == null ? yes(0) : r.kind >= 5 ? yes(r.kind) : no(14);
            case 5:
                return n == 0 ? no(15) : yes(1000 / n);
            default:
                return n % 2 == 0 ? no(10) : yes(1);
        }
    }

    int status() {
        return status;
    }
}
