/** The empty and the full state, numbers beyond 32 bits, dice at their ends, the 512th call, the 1000th turn. */
public final class EdgesTest {
    private static final long NO = HeroSheet.NO;
    private static final Due due = new Due();
    private static final int MIN = Integer.MIN_VALUE;
    private static final int MAX = Integer.MAX_VALUE;

    public static void main(String[] args) {
        emptyAsked();
        emptyChanged();
        constants();
        askedOutside();
        tenValues();
        oneMoreValue();
        thirtyRules();
        tenSpells();
        spellsLast();
        turns();
        backs();
        imageKeepsAll();
        imageOfTen();
        greatNumbers(1);
        greatNumbers(-1);
        greatPool();
        greatDice();
        diceAtTheirEnds();
        chancesAtTheirEnds();
        manyChanges();
        lastCall();
        due.end();
    }

    private static void emptyAsked() {
        HeroSheet x = new HeroSheet();
        due.is("1 status", x.status(), 0);
        for (int v = -1; v <= 10; v++) {
            due.is("16 no value " + v, x.valueTold(v, 0), -1000);
            due.is("17 no value " + v, x.number(v, -1), NO);
            due.is("21 no value " + v, x.needs(v, v), -1);
            due.is("25 no value " + v, x.most(v, 0, 0, false), NO);
            due.is("26 no value " + v, x.seek(v, 0, 0, false), -1);
            due.is("27 no value " + v, x.both(v, v), -1);
            due.is("29 no value " + v, x.dice(v, 0), NO);
            due.is("30 no value " + v, x.chance(v, 0, false, 0), NO);
            due.is("18 no rule " + v, x.ruleTold(v, 0), -1);
            due.is("19 no rule " + v, x.amount(v), NO);
            due.is("20 no ring " + v, x.ring(v), -1);
            due.is("33 no trace " + v, x.trace(v), -1);
            due.is("28 no way " + v, x.way(0, v) + x.way(255, v), -2);
        }
        for (int c = 0; c < 8; c++) {
            due.is("22 choice " + c, x.choice(c, 0) + x.choice(c, 1) + x.choice(c, 2), 0);
        }
        due.is("23 as it is", x.lawful(-1), 1);
        due.is("23 the empty one", x.lawful(0), 1);
        due.is("23 any other", x.lawful(1), 0);
        due.is("24 mend", x.mend(), 0);
        int[] counts = {0, 0, 0, 0, 0, 0, 1, 0, 0};
        for (int what = 0; what < 9; what++) {
            due.is("31 count " + what, x.count(what), counts[what]);
        }
    }

    private static void emptyChanged() {
        HeroSheet x = new HeroSheet();
        due.refused("5 no value", x, x.testValue(0, false, 0), 1);
        due.refused("6 no value", x, x.rule(0, 0, 0, 0, -1), 1);
        due.refused("6 no rule", x, x.rule(4, 0, 0, 0, -1), 1);
        due.refused("7 no value", x, x.typed(1, 0, 0, 0, -1), 1);
        due.refused("10 no value", x, x.spell(0, 0, 1), 1);
        due.refused("12 no value", x, x.spend(0, 1), 1);
        due.refused("15 no image", x, x.back(), 3);
        due.refused("32 no rule", x, x.act(0, 0, 0), 1);
        for (int sheet = 0; sheet < 4; sheet++) {
            due.refused("35 missing " + sheet, x, x.cell(sheet, 0, 0), 10);
            due.refused("36 missing " + sheet, x, x.row(sheet, 0, 0), 10);
            due.refused("37 missing " + sheet + " for shorts", x, x.forge(2, 0, sheet), 10);
            due.refused("37 missing " + sheet + " for bytes", x, x.forge(3, 0, sheet), 10);
        }
        for (int k = 0; k < 30; k++) {
            due.refused("37 no rule " + k, x, x.forge(0, 0, k), 10);
            due.done("37 none among opens " + k, x, x.forge(4, 0, k), 0);
        }
        due.done("11 a turn", x, x.turn(), 0);
        due.done("13 no pools", x, x.rest(), 0);
        due.done("14 an image of nothing", x, x.image(), 1);
        due.done("2 a value", x, x.value(2, 9, 0), 0);
        due.done("15 back to nothing", x, x.back(), 1);
        due.is("31 no values", x.count(0), 0);
        due.done("6 opens, without a value", x, x.rule(5, 0, 0, 0, -1), 0);
        due.is("22 it opens", x.choice(0, 2), 1);
        x.sheet(0, 0, 3);
        due.refused("36 they tell none, without a value", x, x.row(0, 0, 0), 3);
    }

    private static void constants() {
        due.is("NONE", HeroSheet.NONE, -1);
        due.is("NO", NO, -1000000000000L);
    }

    private static void askedOutside() {
        HeroSheet x = Heroes.rich();
        int[] noWhat = {-1, 6, MIN, MAX};
        for (int what : noWhat) {
            due.is("16 what " + what, x.valueTold(0, what), -1000);
        }
        int[] noValue = {-1, 7, 10, MIN, MAX};
        for (int v : noValue) {
            for (int what = 0; what <= 5; what++) {
                due.is("16 value " + v, x.valueTold(v, what), -1000);
            }
            due.is("17 value " + v, x.number(v, 0), NO);
            due.is("29 value " + v, x.dice(v, 0), NO);
            due.is("30 value " + v, x.chance(v, 0, true, 1), NO);
        }
        int[] noBits = {-2, 256, MIN, MAX};
        for (int bits : noBits) {
            due.is("17 bits " + bits, x.number(0, bits), NO);
        }
        int[] noRule = {-1, 12, 30, MIN, MAX};
        for (int r : noRule) {
            for (int what = 0; what <= 8; what++) {
                due.is("18 rule " + r, x.ruleTold(r, what), -1);
            }
            due.is("19 rule " + r, x.amount(r), NO);
        }
        int[] noRuleWhat = {-1, 9, MIN, MAX};
        for (int what : noRuleWhat) {
            due.is("18 what " + what, x.ruleTold(0, what), -1);
        }
        int[] notOfValues = {7, 8, 9};
        for (int r : notOfValues) {
            due.is("18 how of kinds 4 to 6", x.ruleTold(r, 7), -1);
            due.is("18 beater of kinds 4 to 6", x.ruleTold(r, 8), -1);
            due.is("18 type of kinds 4 to 6", x.ruleTold(r, 4), 0);
            due.is("19 amount of kinds 4 to 6", x.amount(r), NO);
        }
        askedOutsideToo(x);
    }

    private static void askedOutsideToo(HeroSheet x) {
        int[] noChoice = {-1, 8, MIN, MAX};
        int[] noWhat = {-1, 3, MIN, MAX};
        for (int i = 0; i < 4; i++) {
            for (int what = 0; what <= 2; what++) {
                due.is("22 choice " + noChoice[i], x.choice(noChoice[i], what), -1);
            }
            due.is("22 what " + noWhat[i], x.choice(0, noWhat[i]), -1);
            due.is("22 what " + noWhat[i] + " of the last", x.choice(7, noWhat[i]), -1);
        }
        int[] noDiceWhat = {-1, 4, MIN, MAX};
        int[] noChanceWhat = {-1, 2, MIN, MAX};
        int[] noCount = {-1, 9, MIN, MAX};
        for (int i = 0; i < 4; i++) {
            due.is("29 what " + noDiceWhat[i], x.dice(3, noDiceWhat[i]), NO);
            due.is("30 what " + noChanceWhat[i], x.chance(3, 0, false, noChanceWhat[i]), NO);
            due.is("31 what " + noCount[i], x.count(noCount[i]), -1);
        }
        int[] noDice = {0, 1, 2, 4, 5, 6};
        for (int v : noDice) {
            due.is("29 no dice " + v, x.dice(v, 0), NO);
            due.is("30 no dice " + v, x.chance(v, 0, false, 0), NO);
        }
    }

    private static void tenValues() {
        HeroSheet x = new HeroSheet();
        for (int v = 0; v < 10; v++) {
            due.done("2 value " + v, x, x.value(v % 5, 90 + v, 5 + 8 * 12), v);
        }
        due.refused("2 an eleventh", x, x.value(0, 0, 0), 2);
        due.is("31 ten", x.count(0), 10);
        for (int v = 0; v < 10; v++) {
            boolean dice = v % 5 == 3;
            due.is("16 kind of " + v, x.valueTold(v, 0), v % 5);
            due.is("16 base of " + v, x.valueTold(v, 1), 90 + v);
            due.is("16 nothing spent of " + v, x.valueTold(v, 2), 0);
            due.is("16 count of " + v, x.valueTold(v, 3), dice ? 5 : 0);
            due.is("16 sides of " + v, x.valueTold(v, 4), dice ? 12 : 0);
            due.is("17 number of " + v, x.number(v, 255), v % 5 == 4 ? 1 : 90 + v);
        }
        due.is("16 value 10", x.valueTold(10, 0), -1000);
        due.done("5 the last value's test", x, x.testValue(9, false, 1), 1);
        due.done("6 the last value read", x, x.rule(0, 0, 0, 0, 9 + 16 * 9), 0);
        due.is("17 by the last value", x.number(0, 0), 90 + 4);
        due.refused("6 by value 10", x, x.rule(0, 0, 0, 0, 10 + 16), 1);
        due.refused("6 by value 15", x, x.rule(0, 0, 0, 0, 15 + 16), 1);
        due.done("10 a spell of the last value", x, x.spell(8, 1, 1), 1);
        due.is("17 with it", x.number(8, 0), 99);
    }

    // Whatever else there is, a new value leaves those before it as they are, and nothing of it is spent or needed.
    private static void oneMoreValue() {
        for (int many = 1; many < 10; many++) {
            for (int others = 0; others <= 10; others++) {
                HeroSheet x = new HeroSheet();
                for (int v = 0; v < many; v++) {
                    x.value(2, 10 + v, 0);
                    x.spend(v, 1 + v);
                    x.rule(0, v, 0, 0, v == 0 ? -1 : v - 1 + 16);
                }
                for (int k = 0; k < others; k++) {
                    x.spell(k % many, 0, 1 + k);
                    x.turn();
                }
                due.done("2 one more", x, x.value(2, 50, 0), many);
                for (int v = 0; v < many; v++) {
                    due.is("16 spent of " + v + " before " + many, x.valueTold(v, 2), 1 + v);
                    due.is("21 " + v + " needs the first", x.needs(v, 0), v == 0 ? 0 : 1);
                    due.is("21 " + v + " does not need it", x.needs(v, many) + x.needs(many, v), 0);
                }
                due.is("16 nothing spent of it", x.valueTold(many, 2), 0);
                due.is("17 its number", x.number(many, 0), 50);
            }
        }
    }

    private static void thirtyRules() {
        HeroSheet x = new HeroSheet();
        x.value(1, 0, 0);
        for (int r = 0; r < 29; r++) {
            due.done("6 rule " + r, x, x.rule(0, 0, 0, r, -1), r);
        }
        x.test(1, 7);
        due.done("6 the last one", x, x.rule(4, 28, 9 + 16 * 20, 0, -1), 29);
        due.refused("6 no room", x, x.rule(0, 0, 0, 0, -1), 2);
        due.is("31 thirty", x.count(1), 30);
        due.is("17 of all", x.number(0, 0), 28 * 29 / 2);
        due.is("17 without the one before the last", x.number(0, 128), 27 * 28 / 2);
        int[] told = {4, 28, 9, 20, 0, 1, 0, -1, -1};
        for (int what = 0; what < 9; what++) {
            due.is("18 the last one " + what, x.ruleTold(29, what), told[what]);
        }
        due.is("18 rule 30", x.ruleTold(30, 0), -1);
        due.is("19 the last amount", x.amount(28), 28);
        due.done("32 an act of the last one", x, x.act(29, 2, 21), 3);
        due.refused("32 an act of rule 30", x, x.act(30, 2, 21), 1);
        due.done("37 the last one, 29", x, x.forge(0, 4, 29), 4);
        due.done("37 the last one, -1", x, x.forge(0, 4, -1), 4);
        due.done("37 the last one, 89", x, x.forge(0, 4, 89), 4);
        due.done("37 the first one, 30", x, x.forge(0, 0, 30), 0);
        due.refused("37 the first one is no instead", x, x.forge(0, 4, 30), 11);
    }

    private static void tenSpells() {
        HeroSheet x = new HeroSheet();
        x.value(1, 0, 0);
        for (int k = 1; k <= 10; k++) {
            due.done("10 spell " + k, x, x.spell(0, 20, k), k);
        }
        due.refused("10 an eleventh", x, x.spell(0, 20, 1), 2);
        due.is("17 of all spells", x.number(0, 0), 200);
        for (int k = 1; k <= 10; k++) {
            due.is("31 spells that last", x.count(3), 11 - k);
            due.done("11 turn " + k, x, x.turn(), 1);
            due.is("31 spells, those that are over too", x.count(2), 10);
            due.is("17 of those that last", x.number(0, 0), 200 - 20 * k);
        }
        due.refused("10 no room, though all are over", x, x.spell(0, 1, 1), 2);
        due.done("11 none ends again", x, x.turn(), 0);
    }

    private static void spellsLast() {
        for (int n = 1; n <= 20; n++) {
            HeroSheet x = new HeroSheet();
            x.value(1, 0, 0);
            x.turn();
            x.spell(0, n, n);
            for (int t = 0; t < n; t++) {
                due.is("10 it lasts " + n + " turns, after " + t, x.number(0, 0), n);
                due.is("31 it lasts", x.count(3), 1);
                due.done("11 turn " + t, x, x.turn(), t == n - 1 ? 1 : 0);
            }
            due.is("10 it is over", x.number(0, 0), 0);
            due.is("31 it lasts no more", x.count(3), 0);
            due.is("31 it is still told", x.count(2), 1);
        }
        HeroSheet x = new HeroSheet();
        x.value(1, 0, 0);
        for (int k = 0; k < 10; k++) {
            x.spell(0, -20, 2);
        }
        due.is("10 least numbers", x.number(0, 0), -200);
        x.turn();
        due.done("11 all ten end", x, x.turn(), 10);
    }

    // More than 512 calls, which the document leaves free: but no fewer could tell what happens at turn 1000.
    private static void turns() {
        HeroSheet x = new HeroSheet();
        x.value(1, 5, 0);
        for (int t = 0; t < 999; t++) {
            due.is("11 turn " + t, x.turn(), 0);
        }
        x.spell(0, 1, 1);
        x.spell(0, 2, 2);
        due.done("11 the 1000th", x, x.turn(), 1);
        due.is("31 the turn", x.count(4), 1000);
        due.refused("11 the 1001st", x, x.turn(), 2);
        due.is("31 it is still turn 1000", x.count(4), 1000);
        due.is("31 a spell that cannot end", x.count(3), 1);
        due.is("17 it still counts", x.number(0, 0), 7);
    }

    private static void backs() {
        HeroSheet x = new HeroSheet();
        due.refused("15 none", x, x.back(), 3);
        x.turn();
        x.turn();
        x.image();
        for (int i = 0; i < 20; i++) {
            x.turn();
            x.make(i % 8, true);
            if (i == 10) {
                x.image();
            }
            due.done("15 back " + i, x, x.back(), i < 10 ? 2 : 3);
            due.is("31 the turn", x.count(4), i < 10 ? 2 : 3);
            due.is("31 made", x.count(5), i < 10 ? 0 : 4);
            x.make(2, i < 10);
        }
        due.refused("15 a 21st time", x, x.back(), 2);
        due.done("14 an image is still kept", x, x.image(), 1);
        due.refused("15 but not gone back to", x, x.back(), 2);
    }

    private static void imageKeepsAll() {
        HeroSheet x = Heroes.rich();
        x.test(1, 7);
        due.done("15 back", x, x.back(), 1);
        int[] counts = {7, 11, 3, 2, 1, 33, -1, 10, 2};
        for (int what = 0; what < 9; what++) {
            if (what != 6) {
                due.is("15 count " + what, x.count(what), counts[what]);
            }
        }
        due.is("15 spent as then", x.valueTold(2, 2), 3);
        due.is("15 nothing spent then", x.valueTold(5, 2), 0);
        due.is("15 free then", x.choice(3, 1), 1);
        due.is("15 not free then", x.choice(6, 1), 0);
        due.is("15 stacked then", x.stack(2, true), 0);
        due.is("15 did not stack then", x.stack(4, false), 0);
        due.is("15 the later rule is gone", x.ruleTold(11, 0), -1);
        due.is("15 the quarrel is back", x.valueTold(6, 5), 1);
        due.is("15 sheets of numbers stay", x.forge(2, 3, 1), 31);
        due.is("15 the ring stays", x.ring(0) * 10 + x.ring(1), 1);
        due.is("15 the trace stays", x.trace(0), 13);
        x.rule(5, 7, 0, 0, -1);
        due.is("15 the test is always", x.ruleTold(11, 6), 1);
        for (int i = 4; i < 20; i++) {
            due.done("15 back " + i, x, x.back(), 1);
        }
        due.refused("15 images do not give more times", x, x.back(), 2);
    }

    // All ten pools, from the first to the last: what was spent of them, and what they needed.
    private static void imageOfTen() {
        for (int way = 0; way <= 1; way++) {
            HeroSheet x = new HeroSheet();
            for (int v = 0; v < 10; v++) {
                x.value(2, 50 + v, 0);
                x.spend(v, 1 + v);
            }
            x.image();
            readInARow(x, way == 0);
            x.rest();
            x.back();
            for (int v = 0; v < 10; v++) {
                due.is("15 kind of " + v, x.valueTold(v, 0), 2);
                due.is("15 base of " + v, x.valueTold(v, 1), 50 + v);
                due.is("15 spent of " + v, x.valueTold(v, 2), 1 + v);
                due.is("15 number of " + v, x.number(v, 0), 50 - 1);
                for (int w = 0; w < 10; w++) {
                    due.is("15 " + v + " needs " + w, x.needs(v, w), 0);
                }
            }
            readInARow(x, way == 1);
            x.image();
            x.back();
            due.refused("6 a ring of all", x, x.rule(0, way == 1 ? 9 : 0, 0, 0, (way == 1 ? 0 : 9) + 16), 4);
            due.is("31 ten in it", x.count(8), 10);
        }
    }

    /** Each of the ten values reads the next one, or each the one before it. */
    private static void readInARow(HeroSheet x, boolean next) {
        for (int v = 0; v < 9; v++) {
            int reader = next ? v : v + 1;
            int read = next ? v + 1 : v;
            due.done("6 " + reader + " reads " + read, x, x.rule(0, reader, 0, 0, read + 16), v);
        }
    }

    /** Three rules on each of ten values, each reading the one before: the greatest numbers that there can be. */
    private static HeroSheet great(int sign, int lastKind) {
        HeroSheet x = new HeroSheet();
        for (int v = 0; v < 10; v++) {
            x.value(v == 9 ? lastKind : 1, sign * 99, 1 + 8 * 2);
            for (int k = 0; k < 3; k++) {
                x.rule(0, v, 0, sign * 1000, v == 0 ? -1 : v - 1 + 16 * 9);
            }
        }
        return x;
    }

    private static long greatNumber(int sign, int value) {
        long n = sign * 3099L;
        for (int v = 1; v <= value; v++) {
            n = sign * 99L + 3 * (sign * 1000L + n * 9 / 2);
        }
        return n;
    }

    private static void greatNumbers(int sign) {
        HeroSheet x = great(sign, 1);
        for (int v = 0; v < 10; v++) {
            due.is("17 a great number " + v, x.number(v, 0), greatNumber(sign, v));
        }
        long last = greatNumber(sign, 9);
        due.is("17 beyond 32 bits", Math.abs(last) > 1L << 45 ? 1 : 0, 1);
        due.is("19 a great amount", x.amount(29), sign * 1000 + greatNumber(sign, 8) * 9 / 2);
        due.is("25 a great most", x.most(9, 0, 0, sign < 0), last);
        due.is("26 a great seek", x.seek(9, 0, 0, false), 0);
        due.is("27 great pairs", x.both(8, 9), 1);
        due.refused("6 no room", x, x.rule(0, 9, 0, 0, -1), 2);
        HeroSheet y = great(sign, 4);
        due.is("17 a great truth", y.number(9, 0), 1);
        greatTests(sign);
    }

    // Twelve times as much a step: after seven steps more than 32 bits hold.
    private static HeroSheet twelvefold(int sign) {
        HeroSheet x = new HeroSheet();
        x.value(1, 0, 0);
        x.rule(0, 0, 0, sign * 1000, -1);
        for (int v = 1; v < 8; v++) {
            x.value(1, 0, 0);
            for (int k = 0; k < 3; k++) {
                x.rule(0, v, 0, 0, v - 1 + 16 * 8);
            }
        }
        return x;
    }

    private static void greatTests(int sign) {
        HeroSheet x = twelvefold(sign);
        long n = sign * 1000L * 35831808L;
        due.is("17 twelve times, seven times over", x.number(7, 0), n);
        x.value(1, 0, 0);
        x.testValue(7, false, 1000);
        x.rule(0, 8, 0, 1, -1);
        x.testValue(7, true, -1000);
        x.rule(0, 8, 0, 2, -1);
        due.is("5 a great number is tested", x.number(8, 0), sign > 0 ? 1 : 2);
        x.test(1, 0);
        x.rule(3, 7, 0, 5, -1);
        x.test(1, 1);
        x.rule(7, 7, 0, -5, -1);
        due.is("17 a great number, at most 5", x.number(7, 1), sign > 0 ? 5 : n);
        due.is("17 a great number, at least -5", x.number(7, 2), sign > 0 ? n : -5);
        x.free(0, true);
        x.free(1, true);
        due.is("25 the greater", x.most(7, 0, 0, false), sign > 0 ? n : -5);
        due.is("26 the greater", x.seek(7, 0, 0, false), sign > 0 ? 0 : 2);
        due.is("25 the less", x.most(7, 0, 0, true), sign > 0 ? 5 : n);
        due.is("26 the less", x.seek(7, 0, 0, true), sign > 0 ? 1 : 0);
        due.is("27 a pair", x.both(7, 0), 1);
    }

    private static void greatPool() {
        HeroSheet x = great(1, 2);
        long n = greatNumber(1, 9);
        for (int i = 1; i <= 5; i++) {
            n -= 1000 - i;
            due.done("12 cut to 32 bits", x, x.spend(9, 1000 - i), (int) n);
            due.is("17 not cut", x.number(9, 0), n);
        }
        HeroSheet y = great(-1, 2);
        due.refused("12 far below 0", y, y.spend(9, 1), 3);
        due.is("16 nothing spent", y.valueTold(9, 2), 0);
        // Between 2 to the 31st and 2 to the 32nd: its lowest 32 bits are below 0, though the number is not.
        HeroSheet z = new HeroSheet();
        z.value(1, 0, 0);
        z.rule(0, 0, 0, 1000, -1);
        for (int v = 1; v < 8; v++) {
            z.value(v == 7 ? 2 : 1, 0, 0);
            z.rule(0, v, 0, 0, v - 1 + 16 * 8);
            z.rule(0, v, 0, 0, v - 1 + 16 * 8);
        }
        due.is("17 eight times, seven times over", z.number(7, 0), 2097152000L);
        z.rule(0, 7, 0, 1000, 6 + 16 * 8);
        due.is("17 half as much again", z.number(7, 0), 3145729000L);
        due.done("12 cut, below 0", z, z.spend(7, 1000), -1149239296);
        due.is("12 done all the same", z.status(), 0);
    }

    private static void greatDice() {
        for (int sign = -1; sign <= 1; sign += 2) {
            HeroSheet x = great(sign, 3);
            long n = greatNumber(sign, 9);
            due.is("29 least", x.dice(9, 0), n + 1);
            due.is("29 greatest", x.dice(9, 1), n + 2);
            due.is("29 mean above the line", x.dice(9, 2), 2 * n + 3);
            due.is("29 mean below the line", x.dice(9, 3), 2);
            int[] ends = {MIN, -1, 0, 1, MAX};
            for (int end : ends) {
                due.is("30 at least " + end, x.chance(9, end, false, 0), sign > 0 ? 1 : 0);
                due.is("30 at least " + end + ", of two", x.chance(9, end, true, 0), sign > 0 ? 1 : 0);
                due.is("30 below the line", x.chance(9, end, true, 1), 1);
            }
        }
    }

    private static void diceAre(int base, int count, int sides, long... told) {
        HeroSheet x = new HeroSheet();
        x.value(3, base, count + 8 * sides);
        for (int what = 0; what < 4; what++) {
            due.is("29 " + count + " of " + sides + " and " + base + ": " + what, x.dice(0, what), told[what]);
        }
        due.is("29 only the number is told", x.number(0, 0), base);
    }

    private static void diceAtTheirEnds() {
        diceAre(0, 1, 2, 1, 2, 3, 2);
        diceAre(0, 2, 2, 2, 4, 3, 1);
        diceAre(0, 5, 12, 5, 60, 65, 2);
        diceAre(99, 5, 12, 104, 159, 263, 2);
        diceAre(-99, 5, 12, -94, -39, -133, 2);
        diceAre(-2, 1, 2, -1, 0, -1, 2);
        diceAre(-1, 1, 2, 0, 1, 1, 2);
        diceAre(-3, 2, 2, -1, 1, 0, 1);
        diceAre(-4, 2, 2, -2, 0, -1, 1);
        diceAre(0, 1, 3, 1, 3, 2, 1);
        diceAre(-5, 1, 11, -4, 6, 1, 1);
        diceAre(-6, 1, 11, -5, 5, 0, 1);
        HeroSheet x = Due.five();
        x.spell(3, 3, 1);
        x.test(1, 0);
        x.rule(0, 3, 0, 10, -1);
        due.is("29 with its number now", x.dice(3, 0), 1 + 3 + 2);
        x.make(0, true);
        due.is("29 with its number then", x.dice(3, 0), 1 + 3 + 10 + 2);
        due.is("30 with its number then", x.chance(3, 1 + 3 + 10 + 12, false, 1), 36);
    }

    private static void chanceIs(HeroSheet x, int n, boolean best, long above, long below) {
        String name = "30 at least " + n + (best ? " of two" : "");
        due.is(name + ", above", x.chance(0, n, best, 0), above);
        due.is(name + ", below", x.chance(0, n, best, 1), below);
    }

    private static void chancesAtTheirEnds() {
        HeroSheet coin = new HeroSheet();
        coin.value(3, -1, 1 + 8 * 2);
        int[] sure = {MIN, -1, 0};
        for (int n : sure) {
            chanceIs(coin, n, false, 1, 1);
            chanceIs(coin, n, true, 1, 1);
        }
        chanceIs(coin, 1, false, 1, 2);
        chanceIs(coin, 1, true, 3, 4);
        int[] never = {2, 3, MAX};
        for (int n : never) {
            chanceIs(coin, n, false, 0, 1);
            chanceIs(coin, n, true, 0, 1);
        }
        HeroSheet five = new HeroSheet();
        five.value(3, 0, 5 + 8 * 12);
        chanceIs(five, 5, false, 1, 1);
        chanceIs(five, 6, false, 248831, 248832);
        chanceIs(five, 6, true, 61917364223L, 61917364224L);
        chanceIs(five, 60, false, 1, 248832);
        chanceIs(five, 60, true, 497663, 61917364224L);
        chanceIs(five, 59, false, 1, 41472);
        chanceIs(five, 61, true, 0, 1);
        chanceIs(five, 33, true, 3, 4);
        HeroSheet three = new HeroSheet();
        three.value(3, 0, 3 + 8 * 6);
        chanceIs(three, 11, false, 1, 2);
        chanceIs(three, 16, false, 5, 108);
        chanceIs(three, 17, false, 1, 54);
        chanceIs(three, 17, true, 107, 2916);
    }

    // After each of many changes, with whichever choices free, a number is the one of now, and not of before.
    private static void manyChanges() {
        int[] sets = {0, 16, 37, 100, 128, 200, 255};
        for (int free : sets) {
            HeroSheet x = new HeroSheet();
            x.value(2, 0, 0);
            x.rule(0, 0, 0, 1000, -1);
            for (int c = 0; c < 8; c++) {
                x.free(c, (free >> c & 1) != 0);
            }
            for (int i = 1; i <= 250; i++) {
                due.is("12 spent " + i + " times", x.spend(0, 1), 1000 - i);
                due.is("17 after " + i + " times", x.number(0, i % 2 == 0 ? 0 : free), 1000 - i);
            }
        }
    }

    // 256 changes and as many questions after them: the 512th call is answered as the first one.
    private static void lastCall() {
        HeroSheet x = new HeroSheet();
        x.value(1, 0, 0);
        x.free(0, true);
        x.test(1, 0);
        x.rule(0, 0, 0, 7, -1);
        for (int i = 0; i < 253; i++) {
            due.is("call " + (5 + 2 * i), x.make(0, i % 2 == 0), i % 2 == 0 ? 1 : 0);
            due.is("call " + (6 + 2 * i), x.number(0, -1), i % 2 == 0 ? 7 : 0);
        }
        due.is("call 511", x.most(0, 0, 0, false), 7);
        due.is("call 512", x.count(6), 2);
    }
}
