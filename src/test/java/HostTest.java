/** Promises 32 to 38: acts, sheets of numbers, what the host refuses, status. */
public final class HostTest {
    private static final Due due = new Due();
    private static final int MIN = Integer.MIN_VALUE;
    private static final int MAX = Integer.MAX_VALUE;

    public static void main(String[] args) {
        acts();
        actsThatWrap();
        actRefusals();
        sheet();
        sheetsFromEmptyToFull();
        cell();
        row();
        rowAtTheEdges();
        rowReadsNoValue();
        rowOrder();
        forgeKinds();
        forgeRules();
        forgeRows();
        forgeCopies();
        forgeOthers();
        forgeAllNumbers();
        status();
        due.end();
    }

    /** Rules 0 .. 6 of kinds 0 .. 6, each with rank 3 and source 2. */
    private static HeroSheet seven() {
        HeroSheet x = Due.five();
        int more = 3 + 16 * 2;
        x.rule(0, 0, more, 1, -1);
        x.typed(1, 0, more, 1, -1);
        x.rule(2, 0, more, 1, -1);
        x.rule(3, 0, more, 1, -1);
        x.rule(4, 0, more, 1, -1);
        x.rule(5, 0, more, 1, -1);
        x.rule(6, 0, more, 1, -1);
        return x;
    }

    private static void actIs(HeroSheet x, int rule, int act, int n, int answer, int... bodies) {
        String call = "32 act " + act + " of " + rule;
        due.done(call, x, x.act(rule, act, n), answer);
        due.is("33 trace of " + call + " size", x.count(7), bodies.length);
        for (int i = 0; i < bodies.length; i++) {
            due.is("33 trace of " + call + " " + i, x.trace(i), bodies[i]);
        }
        due.is("33 trace of " + call + " end", x.trace(bodies.length), -1);
        due.is("33 trace of " + call + " before", x.trace(-1), -1);
        due.is("33 trace of " + call + " far", x.trace(MAX), -1);
    }

    private static void acts() {
        HeroSheet x = seven();
        due.is("33 none yet", x.trace(0), -1);
        actIs(x, 0, 0, 10, 13, 10);
        actIs(x, 0, 1, 10, 26, 11, 10);
        actIs(x, 0, 2, 10, 8, 12);
        actIs(x, 0, 3, 10, 26 ^ 8, 13, 11, 10, 12);
        actIs(x, 1, 0, 10, 14, 20, 10);
        actIs(x, 1, 1, 10, 28, 11, 20, 10);
        actIs(x, 1, 3, 10, 28 ^ 8, 13, 11, 20, 10, 12);
        actIs(x, 2, 1, 10, 26 - 13, 30, 11, 10, 10);
        actIs(x, 2, 3, 10, 13 ^ 8, 13, 30, 11, 10, 10, 12);
        actIs(x, 3, 3, 10, 8 - (28 ^ 9), 40, 12, 13, 11, 10, 12);
        actIs(x, 4, 2, 10, 24, 50, 12);
        actIs(x, 4, 3, 10, 26 ^ 24, 13, 11, 10, 50, 12);
        actIs(x, 5, 1, 10, 22, 61, 11, 10);
        actIs(x, 5, 2, 10, 11, 60, 12);
        actIs(x, 5, 3, 10, 22 ^ 11, 13, 61, 11, 10, 60, 12);
        actIs(x, 6, 0, 10, 13 ^ 5, 70, 10);
        actIs(x, 6, 1, 10, (11 ^ 5) * 2 + 1, 71, 61, 11, 70, 10, 60, 12);
        actIs(x, 6, 2, 10, 11, 60, 12);
        actIs(x, 6, 3, 10, ((11 ^ 5) * 2 + 1) ^ 11, 13, 71, 61, 11, 70, 10, 60, 12, 60, 12);
        actIs(x, 0, 0, MAX, MIN + 2, 10);
        actIs(x, 4, 2, MIN, (MAX - 1) * 3, 50, 12);
        actIs(x, 0, 2, 1, -1, 12);
    }

    // Rank 9 and source 20 at both ends of 32 bits.
    private static void actsThatWrap() {
        HeroSheet x = Due.five();
        int more = 9 + 16 * 20;
        x.rule(0, 0, more, 1, -1);
        x.typed(1, 0, more, 1, -1);
        for (int kind = 2; kind <= 6; kind++) {
            x.rule(kind, 0, more, 1, -1);
        }
        actIs(x, 0, 0, MAX, MIN + 8, 10);
        actIs(x, 0, 0, MAX - 9, MAX, 10);
        actIs(x, 0, 0, MAX - 8, MIN, 10);
        actIs(x, 0, 1, MAX, 16, 11, 10);
        actIs(x, 0, 1, 0x40000000, MIN + 18, 11, 10);
        actIs(x, 0, 2, MIN, MAX - 19, 12);
        actIs(x, 0, 2, MIN + 20, MIN, 12);
        actIs(x, 0, 3, MAX, 0x7FFFFFFB, 13, 11, 10, 12);
        actIs(x, 1, 0, MAX - 9, MIN, 20, 10);
        actIs(x, 1, 0, MAX - 10, MAX, 20, 10);
        actIs(x, 2, 1, MAX, MIN + 8, 30, 11, 10, 10);
        actIs(x, 3, 3, MAX, 0x7FFFFFEB - 0x7FFFFFFE, 40, 12, 13, 11, 10, 12);
        actIs(x, 4, 2, MIN + 20, MIN, 50, 12);
        actIs(x, 4, 2, MIN, 0x7FFFFFC4, 50, 12);
        actIs(x, 5, 2, MIN, MAX - 10, 60, 12);
        actIs(x, 5, 1, MIN, -22, 61, 11, 10);
        actIs(x, 6, 0, MAX, (MIN + 8) ^ 5, 70, 10);
        actIs(x, 6, 1, MIN, -43, 71, 61, 11, 70, 10, 60, 12);
        actIs(x, 6, 2, MIN, MAX - 10, 60, 12);
        // The longest trace that there is.
        actIs(x, 6, 3, MIN, -43 ^ (MAX - 10), 13, 71, 61, 11, 70, 10, 60, 12, 60, 12);
        actIs(x, 0, 2, 0, -20, 12);
    }

    private static void actRefusals() {
        HeroSheet x = seven();
        x.act(0, 1, 0);
        due.refused("32 rule 7", x, x.act(7, 0, 0), 1);
        due.refused("32 rule -1", x, x.act(-1, 0, 0), 1);
        due.refused("32 act 4", x, x.act(0, 4, 0), 1);
        due.refused("32 act -1", x, x.act(0, -1, 0), 1);
        due.is("33 the trace stays", x.count(7), 2);
        due.is("33 its first body", x.trace(0), 11);
    }

    private static void sheet() {
        HeroSheet x = new HeroSheet();
        due.done("34 bytes", x, x.sheet(0, 0, 40), 1);
        due.done("34 shorts", x, x.sheet(1, 1, 0), 1);
        due.done("34 ints", x, x.sheet(3, 2, 1), 1);
        due.done("34 the last number", x, x.cell(0, 39, 5), 1);
        due.refused("34 sheet 4", x, x.sheet(4, 0, 1), 1);
        due.refused("34 sheet -1", x, x.sheet(-1, -1, 1), 1);
        due.refused("34 sort 3", x, x.sheet(0, 3, 1), 1);
        due.refused("34 sort -2", x, x.sheet(0, -2, 1), 1);
        due.refused("34 size 41", x, x.sheet(0, 0, 41), 1);
        due.refused("34 size -1", x, x.sheet(0, 0, -1), 1);
        due.done("34 missing", x, x.sheet(3, -1, MIN), 1);
        due.refused("34 it is missing", x, x.cell(3, 0, 0), 10);
        x.sheet(2, 1, 2);
        x.cell(2, 1, 7);
        x.sheet(2, 1, 3);
        due.done("34 all 0 again", x, x.forge(2, 1, 2), 0);
    }

    private static void sheetsFromEmptyToFull() {
        int[] sizes = {0, 1, 2, 39, 40};
        for (int sheet = 0; sheet < 4; sheet++) {
            HeroSheet x = new HeroSheet();
            for (int sort = 0; sort <= 2; sort++) {
                for (int size : sizes) {
                    due.done("34 sort " + sort + " of " + size, x, x.sheet(sheet, sort, size), 1);
                    due.refused("35 after the last of " + size, x, x.cell(sheet, size, 1), 12);
                    due.refused("35 before the first of " + size, x, x.cell(sheet, -1, 1), 12);
                    if (size > 0) {
                        due.done("35 the last of " + size, x, x.cell(sheet, size - 1, 1), 1);
                        due.done("35 the first of " + size, x, x.cell(sheet, 0, 1), 1);
                    }
                }
            }
            for (int other = 0; other < 4; other++) {
                due.is("34 the others are missing", x.cell(other, 0, 0), other == sheet ? 1 : -1);
            }
            due.done("34 missing", x, x.sheet(sheet, -1, 41), 1);
            due.refused("35 it is missing", x, x.cell(sheet, 0, 0), 10);
            due.done("34 missing again", x, x.sheet(sheet, -1, -1), 1);
            due.done("34 it is there again", x, x.sheet(sheet, 1, 40), 1);
            for (int i = 0; i < 40; i++) {
                due.done("34 all 0", x, x.forge(2, i, sheet), 0);
            }
        }
    }

    private static void cell() {
        HeroSheet x = new HeroSheet();
        x.sheet(0, 0, 3);
        x.sheet(1, 1, 3);
        due.refused("35 sheet 4", x, x.cell(4, 0, 0), 1);
        due.refused("35 sheet -1", x, x.cell(-1, 0, 0), 1);
        due.refused("35 1001", x, x.cell(0, 0, 1001), 1);
        due.refused("35 -1001, of a missing one", x, x.cell(3, 0, -1001), 1);
        due.refused("35 missing, place outside", x, x.cell(3, -1, 0), 10);
        due.refused("35 place 3", x, x.cell(0, 3, 0), 12);
        due.refused("35 place -1", x, x.cell(0, -1, 0), 12);
        int[][] cuts = {{127, 127}, {128, -128}, {255, -1}, {256, 0}, {1000, -24}, {-1000, 24}, {-128, -128}, {-129, 127}};
        for (int[] cut : cuts) {
            due.done("35 byte " + cut[0], x, x.cell(0, 1, cut[0]), 1);
            due.done("35 byte " + cut[0] + " is", x, x.forge(3, 1, 0), cut[1]);
            due.done("35 short " + cut[0], x, x.cell(1, 1, cut[0]), 1);
            due.done("35 short " + cut[0] + " is", x, x.forge(2, 1, 1), cut[0]);
        }
    }

    private static void put(HeroSheet x, int sheet, int... numbers) {
        for (int i = 0; i < numbers.length; i++) {
            x.cell(sheet, i, numbers[i]);
        }
    }

    private static void row() {
        HeroSheet x = Due.five();
        x.sheet(0, 2, 5);
        put(x, 0, 9, 1, -1000, 20, 3);
        x.test(1, 6);
        due.done("36 from place 1 on", x, x.row(0, 2, 1), 0);
        int[] told = {0, 1, 0, 20, 0, 1, 0, 1, -1};
        for (int what = 0; what < told.length; what++) {
            due.is("36 rule told " + what, x.ruleTold(0, what), told[what]);
        }
        due.is("36 amount", x.amount(0), -1000);
        due.is("36 the test", x.number(1, 64), 2 - 1000);
        due.refused("36 no such value", x, x.row(0, 2, 0), 3);
        due.refused("36 value below 0", x, x.row(0, 2, 2), 3);
        put(x, 0, 4, 5, 21);
        due.refused("36 source 21", x, x.row(0, 2, 0), 3);
        put(x, 0, 4, 5, -1);
        due.refused("36 source -1", x, x.row(0, 2, 0), 3);
        put(x, 0, 4, 5, 0);
        due.done("36 source 0", x, x.row(0, 2, 0), 1);
        x.sheet(1, 0, 3);
        put(x, 1, 3, 5, 0);
        due.done("36 by bytes", x, x.row(1, 0, 0), 2);
        x.testValue(3, false, 0);
        due.refused("36 a ring", x, x.row(1, 0, 0), 4);
        due.is("36 the ring", x.ring(0), 3);
        due.is("36 three rules", x.count(1), 3);
    }

    private static void rowAtTheEdges() {
        int[][] tells = {{0, 1000, 20}, {4, -1000, 0}, {1, 0, 1}};
        int[][] none = {{5, 0, 0}, {-1, 0, 0}, {1000, 0, 0}, {-1000, 0, 0}, {0, 0, 21}, {0, 0, -1}, {0, 0, 1000}, {0, 0, -1000}};
        for (int sort = 1; sort <= 2; sort++) {
            HeroSheet x = Due.five();
            x.sheet(0, sort, 3);
            for (int i = 0; i < tells.length; i++) {
                put(x, 0, tells[i]);
                due.done("36 they tell one", x, x.row(0, sort, 0), i);
                due.is("36 its aim", x.ruleTold(i, 1), tells[i][0]);
                due.is("36 its amount", x.amount(i), tells[i][1]);
                due.is("36 its source", x.ruleTold(i, 3), tells[i][2]);
                due.is("36 its rank", x.ruleTold(i, 2), 0);
                due.is("36 its kind", x.ruleTold(i, 0), 0);
            }
            for (int[] numbers : none) {
                put(x, 0, numbers);
                due.refused("36 they tell none: " + numbers[0] + " " + numbers[2], x, x.row(0, sort, 0), 3);
            }
        }
        HeroSheet x = Due.five();
        x.sheet(0, 0, 40);
        put(x, 0, 256, -129, 256 + 20);
        due.done("36 as they are cut", x, x.row(0, 0, 0), 0);
        due.is("36 the cut amount", x.amount(0), 127);
        due.is("36 the cut source", x.ruleTold(0, 3), 20);
        due.done("36 the last place", x, x.row(0, 0, 37), 1);
        due.refused("36 two are left", x, x.row(0, 0, 38), 12);
        due.refused("36 one is left", x, x.row(0, 0, 39), 12);
        due.refused("36 none is left", x, x.row(0, 0, 40), 12);
        for (int size = 0; size <= 3; size++) {
            x.sheet(1, 1, size);
            due.is("36 of " + size, x.row(1, 1, 0), size < 3 ? -1 : 2);
            due.is("36 of " + size + ", status", x.status(), size < 3 ? 12 : 0);
        }
        x.sheet(1, -1, 0);
        due.refused("36 it is missing now", x, x.row(1, 1, 0), 10);
    }

    private static void rowReadsNoValue() {
        HeroSheet x = new HeroSheet();
        for (int v = 0; v < 10; v++) {
            x.value(1, 10 + v, 0);
        }
        x.sheet(3, 2, 30);
        for (int v = 0; v < 10; v++) {
            x.cell(3, 3 * v, v);
            x.cell(3, 3 * v + 1, 100 + v);
            due.done("36 a rule for value " + v, x, x.row(3, 2, 3 * v), v);
            due.is("36 its amount is the told one", x.amount(v), 100 + v);
            due.is("36 its aim's number", x.number(v, 0), 110 + 2 * v);
        }
        for (int w = 0; w < 10; w++) {
            for (int v = 0; v < 10; v++) {
                due.is("36 none needs another", x.needs(w, v), 0);
            }
        }
    }

    private static void rowOrder() {
        HeroSheet x = Due.five();
        x.sheet(0, 1, 4);
        x.sheet(2, 1, 0);
        put(x, 0, 0, 1, 0, 99);
        due.refused("36 sheet 4", x, x.row(4, 1, 0), 1);
        due.refused("36 sheet -1", x, x.row(-1, 1, 0), 1);
        due.refused("36 sort 3", x, x.row(0, 3, 0), 1);
        due.refused("36 sort -1", x, x.row(0, -1, 0), 1);
        due.refused("36 missing", x, x.row(1, 0, -1), 10);
        due.refused("36 another sort, place outside", x, x.row(0, 2, -1), 11);
        due.refused("36 place -1", x, x.row(0, 1, -1), 12);
        due.refused("36 place 2", x, x.row(0, 1, 2), 12);
        due.refused("36 place far", x, x.row(0, 1, MAX), 12);
        due.refused("36 place least", x, x.row(0, 1, MIN), 12);
        due.refused("36 no numbers", x, x.row(2, 1, 0), 12);
        due.refused("36 place 1 tells none", x, x.row(0, 1, 1), 3);
        for (int i = 0; i < 30; i++) {
            due.done("36 rule " + i, x, x.row(0, 1, 0), i);
        }
        due.refused("36 full", x, x.row(0, 1, 0), 2);
        due.refused("36 full before missing", x, x.row(1, 1, 0), 2);
        due.refused("36 full before what tells none", x, x.row(0, 1, 1), 2);
        due.refused("36 wrong before full", x, x.row(0, 3, 0), 1);
    }

    private static void forgeKinds() {
        for (int rule = 0; rule < 7; rule++) {
            HeroSheet x = seven();
            for (int n = -100; n <= 100; n++) {
                int kind = Math.floorMod(n, 7);
                boolean under = kind == 0 || kind == rule || (kind == 5 && rule == 6);
                String call = "37 rule " + rule + " for kind " + n;
                if (under) {
                    due.done(call, x, x.forge(0, n, rule), rule);
                } else {
                    due.refused(call, x, x.forge(0, n, rule), 11);
                }
            }
        }
    }

    private static void forgeRules() {
        HeroSheet x = seven();
        HeroSheet y = seven();
        for (int k = -100; k <= 100; k++) {
            int rule = Math.floorMod(k, 30);
            if (rule < 7) {
                due.done("37 rule " + k, x, x.forge(0, 0, k), rule);
            } else {
                due.refused("37 no rule " + k, x, x.forge(0, 0, k), 10);
            }
            if (rule < 5) {
                due.refused("37 among opens " + k, y, y.forge(4, k, k), 14);
            } else {
                due.done("37 among opens " + k, y, y.forge(4, k, k), rule < 7 ? rule : 0);
            }
        }
        due.is("37 nothing changed", x.count(1), 7);
    }

    private static void forgeRows() {
        HeroSheet x = new HeroSheet();
        x.sheet(0, 0, 5);
        put(x, 0, 1, 20, -3, 100, 60);
        x.sheet(1, 1, 2);
        put(x, 1, -1, 1000);
        x.sheet(2, 2, 9);
        due.done("37 a short below 0", x, x.forge(2, 0, 1), -1);
        due.done("37 a short, sheet modulo 4", x, x.forge(2, 1, -3), 1000);
        due.refused("37 a short outside", x, x.forge(2, 2, 1), 12);
        due.refused("37 a short before", x, x.forge(2, -1, 1), 12);
        due.refused("37 bytes for shorts", x, x.forge(2, 0, 0), 11);
        due.refused("37 ints for shorts, outside", x, x.forge(2, 99, 2), 11);
        due.refused("37 missing for shorts", x, x.forge(2, -1, 3), 10);
        due.done("37 none copied", x, x.forge(3, 0, 0), 0);
        due.done("37 two copied", x, x.forge(3, 2, 0), 17);
        due.done("37 three copied", x, x.forge(3, 3, 96), 117);
        due.refused("37 four copied", x, x.forge(3, 4, 0), 12);
        due.refused("37 below 0 copied", x, x.forge(3, -1, 0), 12);
        due.refused("37 shorts copied", x, x.forge(3, 0, 1), 11);
        due.refused("37 ints copied, outside", x, x.forge(3, -1, 2), 11);
        due.refused("37 missing copied", x, x.forge(3, -1, 3), 10);
        x.sheet(3, 0, 0);
        due.refused("37 none of none copied", x, x.forge(3, 0, 3), 12);
        x.sheet(3, 0, 1);
        due.done("37 none of one copied", x, x.forge(3, 0, 3), 0);
        due.refused("37 one of one copied", x, x.forge(3, 1, 3), 12);
        x.sheet(3, 0, 4);
        due.done("37 three of four copied", x, x.forge(3, 3, 3), 0);
        x.sheet(3, 0, 3);
        due.refused("37 three of three copied", x, x.forge(3, 3, 3), 12);
    }

    // Numbers 1 .. n stand at places 1 on; in a row of 6 they have to stand at n .. 2n - 1.
    private static void forgeCopies() {
        int[] sizes = {0, 1, 2, 3, 4, 5, 7, 8, 40};
        for (int size : sizes) {
            HeroSheet x = new HeroSheet();
            x.sheet(2, 0, size);
            for (int i = 0; i < size; i++) {
                x.cell(2, i, i == 0 ? 100 : 2 * i - 1);
            }
            for (int n = -2; n <= 8; n++) {
                String name = "37 " + n + " copied of " + size;
                if (n >= 0 && n <= 3 && n < size) {
                    due.done(name, x, x.forge(3, n, 2), n * n);
                } else {
                    due.refused(name, x, x.forge(3, n, 2), 12);
                }
            }
            due.refused("37 100 copied", x, x.forge(3, 100, 2), 12);
            due.refused("37 -100 copied", x, x.forge(3, -100, 2), 12);
        }
        HeroSheet x = new HeroSheet();
        x.sheet(1, 0, 4);
        put(x, 1, 0, -128, -128, -128);
        due.done("37 a sum below what a byte holds", x, x.forge(3, 3, 1), -384);
        x.sheet(1, 1, 40);
        x.cell(1, 39, -1000);
        due.done("37 the last short", x, x.forge(2, 39, 1), -1000);
        due.refused("37 after the last short", x, x.forge(2, 40, 1), 12);
        for (int k = -100; k <= 100; k++) {
            int want = Math.floorMod(k, 4) == 1 ? -1000 : -1;
            due.is("37 sheet " + k + " modulo 4", x.forge(2, 39, k), want);
        }
    }

    private static void forgeAllNumbers() {
        HeroSheet x = new HeroSheet();
        for (int n = -100; n <= 100; n++) {
            due.is("37 a row of " + n, x.forge(1, n, 0), Math.max(n, -1));
            due.is("37 a row of " + n + ", status", x.status(), n < 0 ? 13 : 0);
        }
        HeroSheet y = new HeroSheet();
        for (int n = -100; n <= 100; n++) {
            due.is("37 1000 by " + n, y.forge(5, n, 0), n == 0 ? -1 : 1000 / n);
            due.is("37 1000 by " + n + ", status", y.status(), n == 0 ? 15 : 0);
        }
        HeroSheet z = new HeroSheet();
        for (int n = -100; n <= 100; n++) {
            due.is("37 thrown " + n, z.forge(6, n, 0), n % 2 == 0 ? -1 : 1);
            due.is("37 thrown " + n + ", status", z.status(), n % 2 == 0 ? 10 : 0);
        }
    }

    private static void forgeOthers() {
        HeroSheet x = new HeroSheet();
        due.refused("37 what 7", x, x.forge(7, 0, 0), 1);
        due.refused("37 what -1", x, x.forge(-1, 0, 0), 1);
        for (int what = 0; what <= 6; what++) {
            due.refused("37 n 101, what " + what, x, x.forge(what, 101, 0), 1);
            due.refused("37 n -101, what " + what, x, x.forge(what, -101, 0), 1);
            due.refused("37 k 101, what " + what, x, x.forge(what, 1, 101), 1);
            due.refused("37 k -101, what " + what, x, x.forge(what, 1, -101), 1);
        }
        due.done("37 a row of 0", x, x.forge(1, 0, 0), 0);
        due.done("37 a row of 100", x, x.forge(1, 100, -100), 100);
        due.refused("37 a row of -1", x, x.forge(1, -1, 0), 13);
        due.refused("37 by 0", x, x.forge(5, 0, 100), 15);
        due.done("37 by 7", x, x.forge(5, 7, 0), 142);
        due.done("37 by -7", x, x.forge(5, -7, 0), -142);
        due.done("37 by -100", x, x.forge(5, -100, 0), -10);
        due.refused("37 none is thrown", x, x.forge(6, 0, 0), 10);
        due.refused("37 none is thrown, -2", x, x.forge(6, -2, 0), 10);
        due.done("37 one is thrown", x, x.forge(6, 1, 0), 1);
        due.done("37 one is thrown, -1", x, x.forge(6, -1, 0), 1);
    }

    private static void status() {
        HeroSheet x = Due.five();
        due.is("38 done", x.status(), 0);
        x.value(9, 0, 0);
        due.is("38 wrong", x.status(), 1);
        due.is("38 asked again", x.status(), 1);
        x.make(0, false);
        due.is("38 not so", x.status(), 3);
        x.rule(0, 0, 0, 0, 16);
        due.is("38 a ring", x.status(), 4);
        x.cell(0, 0, 0);
        due.is("38 nothing there", x.status(), 10);
        x.image();
        due.is("38 image", x.status(), 0);
        x.forge(1, -1, 0);
        due.is("38 below 0", x.status(), 13);
        x.back();
        due.is("38 back", x.status(), 0);
        x.rule(0, 0, 0, 5, -1);
        x.forge(4, 0, 0);
        due.is("38 a misfit", x.status(), 14);
        x.act(0, 2, -1);
        due.is("38 an act that answers -1", x.status(), 0);
        x.stack(0, true);
        x.turn();
        due.is("38 turn", x.status(), 0);
        x.free(9, true);
        x.rest();
        due.is("38 rest", x.status(), 0);
    }
}
