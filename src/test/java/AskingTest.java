/** Promises 16 to 31: questions. */
public final class AskingTest {
    private static final long NO = HeroSheet.NO;
    private static final Due due = new Due();
    private static final int MIN = Integer.MIN_VALUE;
    private static final int MAX = Integer.MAX_VALUE;

    public static void main(String[] args) {
        valueTold();
        number();
        numberByParts();
        ruleTold();
        howRulesAre();
        amount();
        ring();
        needs();
        choice();
        lawful();
        mend();
        most();
        both();
        way();
        dice();
        chance();
        count();
        questionsKeepStatus();
        due.end();
    }

    private static void valueTold() {
        HeroSheet x = Due.five();
        x.spend(2, 4);
        int[][] told = {{0, 10, 0, 0, 0, 0}, {1, 2, 0, 0, 0, 0}, {2, 5, 4, 0, 0, 0}, {3, 1, 0, 2, 6, 0}, {4, 0, 0, 0, 0, 0}};
        for (int v = 0; v < 5; v++) {
            for (int what = 0; what < 6; what++) {
                due.is("16 value " + v + " what " + what, x.valueTold(v, what), told[v][what]);
            }
        }
        due.is("16 what 6", x.valueTold(0, 6), -1000);
        due.is("16 what -1", x.valueTold(0, -1), -1000);
        due.is("16 value 5", x.valueTold(5, 0), -1000);
        due.is("16 value -1", x.valueTold(-1, 0), -1000);
        x.rule(2, 0, 3, 8, -1);
        due.is("16 one set", x.valueTold(0, 5), 0);
        x.rule(2, 0, 2, 9, -1);
        due.is("16 another rank", x.valueTold(0, 5), 0);
        x.rule(2, 0, 3, 8, -1);
        due.is("16 the same amount", x.valueTold(0, 5), 0);
        x.test(1, 0);
        x.rule(2, 0, 3, 7, -1);
        due.is("16 one that does not hold", x.valueTold(0, 5), 0);
        x.make(0, true);
        due.is("16 a quarrel", x.valueTold(0, 5), 1);
        due.is("16 of this one alone", x.valueTold(1, 5), 0);
        x.test(0, 0);
        x.rule(2, 0, 4, 1, -1);
        due.is("16 quarrels of lesser ranks are none", x.valueTold(0, 5), 0);
    }

    private static void number() {
        HeroSheet x = Due.five();
        x.test(1, 0);
        x.rule(0, 0, 0, 5, -1);
        due.is("17 as it is", x.number(0, -1), 10);
        due.is("17 on another", x.number(0, 1), 15);
        x.make(0, true);
        due.is("17 as it is then", x.number(0, -1), 15);
        due.is("17 on the empty one", x.number(0, 0), 10);
        due.is("17 on the greatest", x.number(0, 255), 15);
        due.is("17 bits 256", x.number(0, 256), NO);
        due.is("17 bits -2", x.number(0, -2), NO);
        due.is("17 bits least", x.number(0, MIN), NO);
        due.is("17 value 5", x.number(5, 0), NO);
        due.is("17 value -1", x.number(-1, 0), NO);
    }

    private static void numberByParts() {
        HeroSheet x = Due.five();
        x.rule(0, 1, 0, 0, 3 + 16 * 5);
        due.is("17 halves cut towards 0", x.number(1, 0), 2 + 2);
        x.rule(2, 3, 0, -1, -1);
        due.is("17 below 0 too", x.number(1, 0), 2 - 2);
        x.rule(0, 3, 0, 4, -1);
        due.is("17 more than a set", x.number(3, 0), -1 + 4);
        x.rule(3, 3, 0, 2, -1);
        x.rule(7, 3, 0, 9, -1);
        due.is("17 at least first, then at most", x.number(3, 0), 2);
        x.rule(0, 4, 0, -3, -1);
        due.is("17 a truth", x.number(4, 0), 1);
        x.rule(0, 4, 0, 3, -1);
        due.is("17 no truth", x.number(4, 0), 0);
        x.test(2, 0);
        x.rule(0, 0, 0, 1, -1);
        x.test(0, 0);
        x.rule(4, 7, 0, 0, -1);
        due.is("17 taken away", x.number(0, 0), 10);
        x.test(1, 0);
        x.rule(4, 8, 0, 0, -1);
        due.is("17 an instead taken away, but it is no sheet of the test", x.number(0, 1), 10);
        due.is("17 still taken away", x.number(0, 0), 10);
        x.test(2, 0);
        x.rule(4, 8, 0, 0, -1);
        due.is("17 an instead taken away", x.number(0, 0), 11);
        x.test(0, 0);
        x.rule(0, 0, 16 * 3, 100, -1);
        x.rule(0, 0, 16 * 3, 200, -1);
        x.typed(1, 0, 16 * 3, 400, -1);
        due.is("17 a source once", x.number(0, 0), 111);
        x.rule(0, 1, 16 * 3, 400, -1);
        due.is("17 a source once for each aim", x.number(1, 0), 2 + 2 * 5 / 2 + 400);
    }

    private static void ruleTold() {
        HeroSheet x = Due.five();
        x.test(1, 2);
        x.typed(4, 3, 7 + 16 * 11, 1, -1);
        x.rule(4, 0, 0, 0, -1);
        x.rule(5, 6, 1, 0, -1);
        x.rule(6, 6, 1, 0, -1);
        int[][] told = {{1, 3, 7, 11, 4, 1, 0, 1, -1}, {4, 0, 0, 0, 0, 1, 0, -1, -1},
            {5, 6, 1, 0, 0, 1, 0, -1, -1}, {6, 6, 1, 0, 0, 1, 0, -1, -1}};
        for (int r = 0; r < 4; r++) {
            for (int what = 0; what < 9; what++) {
                due.is("18 rule " + r + " what " + what, x.ruleTold(r, what), told[r][what]);
            }
        }
        x.make(2, true);
        due.is("18 not there", x.ruleTold(0, 5), 0);
        due.is("18 it holds all the same", x.ruleTold(0, 6), 1);
        due.is("18 how", x.ruleTold(0, 7), 0);
        due.is("18 instead holds", x.ruleTold(1, 6), 1);
        due.is("18 instead has no how", x.ruleTold(1, 7), -1);
        due.is("18 what 9", x.ruleTold(0, 9), -1);
        due.is("18 what -1", x.ruleTold(0, -1), -1);
        due.is("18 rule 4", x.ruleTold(4, 0), -1);
        due.is("18 rule -1", x.ruleTold(-1, 0), -1);
    }

    private static void how(HeroSheet x, int rule, int how, int beater) {
        due.is("18 how " + rule + " is", x.ruleTold(rule, 7), how);
        due.is("18 beater of " + rule, x.ruleTold(rule, 8), beater);
    }

    private static void howRulesAre() {
        HeroSheet x = Due.five();
        x.rule(0, 0, 0, 0, -1);
        x.typed(1, 0, 16 * 2, 5, -1);
        x.typed(1, 0, 0, 7, -1);
        x.typed(1, 0, 0, 7, -1);
        x.typed(1, 0, 0, -1, -1);
        x.typed(1, 0, 0, -2, -1);
        x.typed(1, 0, 0, 0, -1);
        x.rule(0, 0, 16 * 2, 9, -1);
        x.typed(2, 1, 0, 9, -1);
        x.typed(1, 0, 0, -2, -1);
        int[][] typed = {{2, -1}, {4, 2}, {2, -1}, {4, 2}, {4, 5}, {2, -1}, {4, -1}, {3, 1}, {2, -1}, {4, 5}};
        for (int r = 0; r < typed.length; r++) {
            how(x, r, typed[r][0], typed[r][1]);
        }
        x.stack(1, true);
        how(x, 1, 2, -1);
        how(x, 6, 2, -1);
        how(x, 7, 3, 1);
        HeroSheet y = Due.five();
        y.rule(2, 2, 1, 5, -1);
        y.rule(2, 2, 2, 6, -1);
        y.rule(2, 2, 2, 7, -1);
        y.rule(3, 2, 0, 5, -1);
        y.rule(3, 2, 0, 5, -1);
        y.rule(7, 2, 0, 8, -1);
        y.rule(7, 2, 0, 7, -1);
        y.rule(3, 2, 0, 4, -1);
        y.rule(7, 2, 0, 8, -1);
        int[][] others = {{4, 1}, {2, -1}, {4, 1}, {2, -1}, {4, -1}, {2, -1}, {4, -1}, {2, -1}, {4, -1}};
        for (int r = 0; r < others.length; r++) {
            how(y, r, others[r][0], others[r][1]);
        }
        due.is("18 the number by these", y.number(2, 0), 4);
    }

    private static void amount() {
        HeroSheet x = Due.five();
        x.test(1, 0);
        x.rule(0, 1, 0, 3, 3 + 16 * 3);
        x.rule(3, 1, 0, -7, -1);
        x.rule(4, 0, 0, 5, -1);
        x.rule(5, 0, 0, 5, -1);
        due.is("19 though it does not hold", x.amount(0), 3 + 1);
        due.is("19 of a cap", x.amount(1), -7);
        due.is("19 of an instead", x.amount(2), NO);
        due.is("19 of an opens", x.amount(3), NO);
        x.spell(3, -4, 1);
        due.is("19 now", x.amount(0), 3 - 4);
        due.is("19 rule 4", x.amount(4), NO);
        due.is("19 rule -1", x.amount(-1), NO);
    }

    private static void ringIs(String call, HeroSheet x, int... values) {
        due.is(call + " size", x.count(8), values.length);
        for (int i = 0; i < values.length; i++) {
            due.is(call + " " + i, x.ring(i), values[i]);
        }
        due.is(call + " end", x.ring(values.length), -1);
        due.is(call + " before", x.ring(-1), -1);
        due.is(call + " far", x.ring(MAX), -1);
    }

    private static void ring() {
        HeroSheet x = new HeroSheet();
        for (int v = 0; v < 8; v++) {
            x.value(0, 0, 0);
        }
        ringIs("20 none", x);
        // 1 needs 5 and 4; 5 and 4 need 3; 3 needs 2; 6 needs 2.
        x.rule(0, 1, 0, 0, 5 + 16);
        x.rule(0, 1, 0, 0, 4 + 16);
        x.rule(0, 5, 0, 0, 3 + 16);
        x.rule(0, 4, 0, 0, 3 + 16);
        x.rule(0, 3, 0, 0, 2 + 16);
        x.rule(0, 6, 0, 0, 2 + 16);
        ringIs("20 none by what is no ring", x);
        x.rule(0, 2, 0, 0, 1 + 16);
        ringIs("20 the lesser values", x, 2, 1, 4, 3);
        x.testValue(6, false, 0);
        x.rule(0, 2, 0, 0, 1 + 16);
        ringIs("20 the fewest values", x, 2, 6);
        x.testValue(1, false, 0);
        x.rule(0, 2, 0, 0, 2 + 16);
        ringIs("20 one alone", x, 2);
        x.rule(0, 7, 0, 0, 1 + 16);
        ringIs("20 it stays", x, 2);
        x.test(0, 0);
        x.rule(0, 3, 0, 0, 5 + 16);
        ringIs("20 two", x, 3, 5);
    }

    private static void needs() {
        HeroSheet x = Due.five();
        x.rule(0, 1, 0, 0, 16);
        x.testValue(1, false, 0);
        x.rule(2, 2, 0, 0, -1);
        x.rule(5, 0, 0, 0, -1);
        due.is("21 by an amount", x.needs(1, 0), 1);
        due.is("21 by a test", x.needs(2, 1), 1);
        due.is("21 through others", x.needs(2, 0), 1);
        due.is("21 not the other way", x.needs(0, 2), 0);
        due.is("21 not itself", x.needs(1, 1), 0);
        x.test(0, 0);
        x.rule(0, 0, 0, 0, 3 + 16);
        due.is("21 through more", x.needs(2, 3), 1);
        due.is("21 value 5", x.needs(5, 0), -1);
        due.is("21 value -1", x.needs(0, -1), -1);
    }

    private static void choice() {
        HeroSheet x = Due.five();
        x.free(0, true);
        x.rule(6, 0, 0, 0, -1);
        x.test(2, 1);
        x.rule(5, 1, 0, 0, -1);
        due.is("22 barred", x.choice(0, 2), 0);
        due.is("22 free all the same", x.choice(0, 1), 1);
        due.is("22 opened", x.choice(1, 2), 1);
        x.make(1, true);
        due.is("22 open without itself", x.choice(1, 2), 1);
        due.is("22 made", x.choice(1, 0), 1);
        x.test(1, 3);
        x.rule(4, 0, 0, 0, -1);
        x.make(3, true);
        due.is("22 the bar is taken away", x.choice(0, 2), 1);
        due.is("22 what 3", x.choice(0, 3), -1);
        due.is("22 what -1", x.choice(0, -1), -1);
        due.is("22 choice 8", x.choice(8, 0), -1);
        due.is("22 choice -1", x.choice(-1, 0), -1);
    }

    /** Choice 0 is free, 1 is opened by 0, 2 by 1; 3 is free and barred by 2; 4 is opened by 5 and 5 by 4. */
    private static HeroSheet chain() {
        HeroSheet x = Due.five();
        x.free(0, true);
        x.free(3, true);
        opens(x, 5, 1, 0);
        opens(x, 5, 2, 1);
        opens(x, 6, 3, 2);
        opens(x, 5, 4, 5);
        opens(x, 5, 5, 4);
        x.test(0, 0);
        return x;
    }

    private static void opens(HeroSheet x, int kind, int choice, int by) {
        x.test(1, by);
        x.rule(kind, choice, 0, 0, -1);
    }

    private static void lawful() {
        HeroSheet x = chain();
        int[] lawful = {0, 1, 3, 7, 8, 9, 11, 48, 49};
        int[] unlawful = {2, 4, 5, 6, 12, 15, 16, 32, 64, 128, 255};
        for (int bits : lawful) {
            due.is("23 lawful " + bits, x.lawful(bits), 1);
        }
        for (int bits : unlawful) {
            due.is("23 unlawful " + bits, x.lawful(bits), 0);
        }
        due.is("23 as it is", x.lawful(-1), 1);
        x.make(1, true);
        due.is("23 as it is then", x.lawful(-1), 0);
        due.is("23 bits 256", x.lawful(256), -1);
        due.is("23 bits -2", x.lawful(-2), -1);
        // {}, 0, 01, 012, 3, 30, 301 and each of them with 4 and 5.
        due.is("31 lawful sheets", x.count(6), 14);
    }

    private static void mend() {
        HeroSheet x = chain();
        due.is("24 nothing", x.mend(), 0);
        x.make(1, true);
        due.is("24 all", x.mend(), 0);
        x.make(0, true);
        due.is("24 lawful", x.mend(), 3);
        x.make(2, true);
        x.make(3, true);
        due.is("24 of 7 and 11 the greater bits", x.mend(), 11);
        x.make(4, true);
        due.is("24 one more", x.mend(), 11);
        x.make(5, true);
        due.is("24 with both", x.mend(), 59);
        due.is("24 it is only told", x.count(5), 63);
        HeroSheet all = new HeroSheet();
        for (int c = 0; c < 8; c++) {
            all.free(c, true);
            all.make(c, true);
        }
        due.is("24 all eight", all.mend(), 255);
        due.is("31 all lawful", all.count(6), 256);
        wayIs(all, 255, 0, 1, 2, 3, 4, 5, 6, 7);
    }

    private static void most() {
        HeroSheet x = chain();
        int[] boons = {1, -3, 4, 2};
        for (int c = 0; c < 4; c++) {
            x.test(1, c);
            x.rule(0, 0, 0, boons[c], -1);
        }
        // {}: 10, 0: 11, 01: 8, 012: 12, 3: 12, 03: 13, 013: 10.
        due.is("25 most", x.most(0, 0, 0, false), 13);
        due.is("26 most", x.seek(0, 0, 0, false), 9);
        due.is("25 least", x.most(0, 0, 0, true), 8);
        due.is("26 least", x.seek(0, 0, 0, true), 3);
        due.is("25 most with 1", x.most(0, 2, 0, false), 12);
        due.is("26 most with 1", x.seek(0, 2, 0, false), 7);
        due.is("25 most without 0", x.most(0, 0, 1, false), 12);
        due.is("26 most without 0", x.seek(0, 0, 1, false), 8);
        due.is("25 least with 3, without 0", x.most(0, 8, 1, true), 12);
        due.is("26 of several the least set", x.seek(1, 0, 0, false), 0);
        due.is("26 of several with 5", x.seek(1, 32, 0, true), 48);
        due.is("25 none", x.most(0, 64, 0, false), NO);
        due.is("26 none", x.seek(0, 64, 0, false), -1);
        due.is("25 must and without", x.most(0, 1, 1, false), NO);
        int[] noSets = {-1, -2, 256, MIN, MAX};
        for (int bits : noSets) {
            due.is("25 must " + bits, x.most(0, bits, 0, false), NO);
            due.is("25 without " + bits, x.most(0, 0, bits, false), NO);
            due.is("26 must " + bits, x.seek(0, bits, 0, false), -1);
            due.is("26 without " + bits, x.seek(0, 0, bits, false), -1);
        }
        due.is("25 value 5", x.most(5, 0, 0, false), NO);
        due.is("25 value -1", x.most(-1, 0, 0, false), NO);
        due.is("26 value 5", x.seek(5, 0, 0, false), -1);
        due.is("26 value -1", x.seek(-1, 0, 0, false), -1);
    }

    private static void both() {
        HeroSheet x = Due.five();
        int[][] boons = {{3, -3}, {2, -2}, {0, 0}, {-1, 0}};
        for (int c = 0; c < 4; c++) {
            x.free(c, true);
            x.test(1, c);
            x.rule(0, 0, 0, boons[c][0], -1);
            x.rule(0, 1, 0, boons[c][1], -1);
        }
        // (0, 0), (3, -3), (2, -2), (5, -5), each also with choice 2; those with choice 3 are bettered.
        due.is("27 pairs", x.both(0, 1), 4);
        due.is("27 the other way", x.both(1, 0), 4);
        due.is("27 one twice", x.both(0, 0), 1);
        due.is("27 with one that stays", x.both(0, 3), 1);
        x.free(1, false);
        due.is("27 lawful ones alone", x.both(0, 1), 2);
        due.is("27 value 5", x.both(0, 5), -1);
        due.is("27 value -1", x.both(-1, 0), -1);
    }

    private static void wayIs(HeroSheet x, int bits, int... steps) {
        for (int i = 0; i < steps.length; i++) {
            due.is("28 way to " + bits + " step " + i, x.way(bits, i), steps[i]);
        }
        due.is("28 way to " + bits + " end", x.way(bits, steps.length), -1);
        due.is("28 way to " + bits + " before", x.way(bits, -1), -1);
        due.is("28 way to " + bits + " far", x.way(bits, MAX), -1);
    }

    private static void way() {
        HeroSheet x = chain();
        wayIs(x, 0);
        wayIs(x, 7, 0, 1, 2);
        wayIs(x, 11, 0, 1, 3);
        wayIs(x, 2);
        wayIs(x, 48);
        wayIs(x, 256);
        wayIs(x, -1);
        wayIs(x, MIN);
        opens(x, 5, 6, 3);
        opens(x, 5, 0, 6);
        x.free(0, false);
        wayIs(x, 73, 3, 6, 0);
        // 3 and 5 are both free, but 3 bars 5, so that no order of the two ends lawfully.
        HeroSheet y = Due.five();
        y.free(3, true);
        y.free(5, true);
        opens(y, 6, 5, 3);
        wayIs(y, 40);
        // 1 is barred until 2 is made, so that the greater one comes first.
        HeroSheet z = Due.five();
        z.free(1, true);
        z.free(2, true);
        z.test(2, 2);
        z.rule(6, 1, 0, 0, -1);
        wayIs(z, 6, 2, 1);
    }

    private static void dice() {
        HeroSheet x = Due.five();
        long[] told = {3, 13, 8, 1};
        for (int what = 0; what < 4; what++) {
            due.is("29 what " + what, x.dice(3, what), told[what]);
        }
        x.value(3, -10, 1 + 8 * 4);
        long[] below = {-9, -6, -15, 2};
        for (int what = 0; what < 4; what++) {
            due.is("29 below 0, what " + what, x.dice(5, what), below[what]);
        }
        x.value(3, -15, 3 + 8 * 9);
        due.is("29 a mean of 0", x.dice(6, 2), 0);
        due.is("29 by 1", x.dice(6, 3), 1);
        x.value(3, 0, 5 + 8 * 12);
        due.is("29 65 by 2", x.dice(7, 2), 65);
        due.is("29 by 2", x.dice(7, 3), 2);
        due.is("29 what 4", x.dice(3, 4), NO);
        due.is("29 what -1", x.dice(3, -1), NO);
        due.is("29 no dice", x.dice(2, 0), NO);
        due.is("29 value 8", x.dice(8, 0), NO);
        due.is("29 value -1", x.dice(-1, 0), NO);
    }

    private static void chanceIs(HeroSheet x, int value, int n, boolean best, long above, long below) {
        String call = "30 chance of " + value + " for " + n + (best ? " of two" : "");
        due.is(call + " above", x.chance(value, n, best, 0), above);
        due.is(call + " below", x.chance(value, n, best, 1), below);
    }

    private static void chance() {
        HeroSheet x = Due.five();
        chanceIs(x, 3, 3, false, 1, 1);
        chanceIs(x, 3, 4, false, 35, 36);
        chanceIs(x, 3, 8, false, 7, 12);
        chanceIs(x, 3, 13, false, 1, 36);
        chanceIs(x, 3, 14, false, 0, 1);
        chanceIs(x, 3, 13, true, 71, 1296);
        chanceIs(x, 3, 8, true, 119, 144);
        chanceIs(x, 3, 14, true, 0, 1);
        chanceIs(x, 3, MIN, true, 1, 1);
        chanceIs(x, 3, MAX, false, 0, 1);
        x.value(3, 0, 5 + 8 * 12);
        chanceIs(x, 5, 60, false, 1, 248832);
        chanceIs(x, 5, 60, true, 497663, 61917364224L);
        chanceIs(x, 5, 33, false, 1, 2);
        x.value(3, -3, 1 + 8 * 2);
        chanceIs(x, 6, -1, true, 3, 4);
        due.is("30 what 2", x.chance(3, 5, false, 2), NO);
        due.is("30 what -1", x.chance(3, 5, false, -1), NO);
        due.is("30 no dice", x.chance(0, 5, false, 0), NO);
        due.is("30 value 7", x.chance(7, 5, false, 0), NO);
        due.is("30 value -1", x.chance(-1, 5, false, 0), NO);
    }

    private static void count() {
        HeroSheet x = Due.five();
        x.rule(0, 0, 0, 1, -1);
        x.rule(0, 0, 0, 1, 16);
        x.spell(0, 1, 1);
        x.spell(0, 1, 5);
        x.turn();
        x.make(2, true);
        x.make(7, true);
        x.free(1, true);
        x.free(4, true);
        x.act(0, 3, 0);
        int[] counts = {5, 1, 2, 1, 1, 132, 4, 4, 1};
        for (int what = 0; what < counts.length; what++) {
            due.is("31 count " + what, x.count(what), counts[what]);
        }
        due.is("31 what 9", x.count(9), -1);
        due.is("31 what -1", x.count(-1), -1);
    }

    private static void questionsKeepStatus() {
        HeroSheet x = Due.five();
        x.sheet(0, 0, -1);
        x.forge(5, 0, 0);
        x.valueTold(9, 9);
        x.number(0, 0);
        x.ruleTold(0, 0);
        x.amount(0);
        x.ring(0);
        x.needs(0, 0);
        x.choice(0, 2);
        x.lawful(0);
        x.mend();
        x.most(0, 0, 0, true);
        x.seek(0, 0, 0, true);
        x.both(0, 0);
        x.way(0, 0);
        x.dice(3, 0);
        x.chance(3, 0, true, 0);
        x.count(0);
        x.trace(0);
        due.is("38 questions keep the status", x.status(), 15);
    }
}
