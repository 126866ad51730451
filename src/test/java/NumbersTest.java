/** Section 2 of the terms, sentence by sentence: which rules are there, and how a value's number comes about. */
public final class NumbersTest {
    private static final Due due = new Due();

    public static void main(String[] args) {
        thereFromTheLastOn();
        thereByTests();
        insteadOfEachKind();
        setsByRank();
        setsOnEachBase();
        quarrels();
        quarrelsAmongOthers();
        typedAroundZero();
        typedApart();
        stacking();
        twice();
        twiceAmongTyped();
        spellsBeforeCaps();
        capsAtTheirAmount();
        capsInOrder();
        poolsAndTruths();
        poolsBelowZero();
        truthsAfterCaps();
        amountsCut();
        amountsRead();
        readInAnyOrder();
        testsAtTheirNumber();
        testsFarOut();
        eachAskedFirst();
        due.end();
    }

    /** A value 0 with base 10 and nothing else. */
    private static HeroSheet ten() {
        HeroSheet x = new HeroSheet();
        x.value(1, 10, 0);
        return x;
    }

    private static void how(String name, HeroSheet x, int rule, int how, int beater) {
        due.is(name + ": how rule " + rule + " is", x.ruleTold(rule, 7), how);
        due.is(name + ": beater of " + rule, x.ruleTold(rule, 8), beater);
    }

    // Each instead takes away the one before it: the boon is there if their number is even.
    private static void thereFromTheLastOn() {
        HeroSheet x = ten();
        x.rule(0, 0, 0, 5, -1);
        due.is("there: no instead", x.number(0, 0), 15);
        for (int r = 1; r < 30; r++) {
            x.rule(4, r - 1, 0, 0, -1);
            due.is("there: " + r + " insteads", x.number(0, 0), r % 2 == 0 ? 15 : 10);
            due.is("there: the last of " + r, x.ruleTold(r, 5), 1);
            due.is("there: the one before " + r, x.ruleTold(r - 1, 5), 0);
            due.is("there: it holds all the same", x.ruleTold(r - 1, 6), 1);
        }
        due.is("there: the boon's state", x.ruleTold(0, 7), 0);
    }

    // Rule 2 is there, but holds with choice 1 alone; rule 1 holds with choice 0 alone.
    private static void thereByTests() {
        HeroSheet x = ten();
        x.rule(0, 0, 0, 5, -1);
        x.test(1, 0);
        x.rule(4, 0, 0, 0, -1);
        x.test(1, 1);
        x.rule(4, 1, 0, 0, -1);
        long[] numbers = {15, 10, 15, 15};
        for (int bits = 0; bits < 4; bits++) {
            due.is("there by tests on " + bits, x.number(0, bits), numbers[bits]);
        }
        x.test(1, 2);
        x.rule(4, 0, 0, 0, -1);
        due.is("there: two insteads of one, the other holds", x.number(0, 4), 10);
        due.is("there: the first of two is taken away", x.number(0, 7), 10);
        due.is("there: neither holds", x.number(0, 2), 15);
    }

    private static void insteadOfEachKind() {
        HeroSheet x = ten();
        x.rule(2, 0, 0, 20, -1);
        x.rule(0, 0, 0, 1, -1);
        x.typed(1, 0, 0, 2, -1);
        x.rule(3, 0, 0, 22, -1);
        x.rule(7, 0, 0, 30, -1);
        x.rule(5, 0, 0, 0, -1);
        x.rule(6, 0, 0, 0, -1);
        due.is("instead: none yet", x.number(0, 0), 22);
        due.is("instead: barred", x.choice(0, 2), 0);
        x.rule(4, 6, 0, 0, -1);
        due.is("instead of the bar", x.choice(0, 2), 1);
        x.rule(4, 5, 0, 0, -1);
        due.is("instead of what opens", x.choice(0, 2), 0);
        x.rule(4, 3, 0, 0, -1);
        due.is("instead of at most", x.number(0, 0), 30);
        x.rule(4, 4, 0, 0, -1);
        due.is("instead of at least", x.number(0, 0), 23);
        x.rule(4, 0, 0, 0, -1);
        due.is("instead of the set", x.number(0, 0), 13);
        x.rule(4, 2, 0, 0, -1);
        due.is("instead of the typed one", x.number(0, 0), 11);
        x.rule(4, 1, 0, 0, -1);
        due.is("instead of the rule", x.number(0, 0), 10);
        for (int r = 0; r <= 4; r++) {
            how("instead", x, r, 0, -1);
        }
    }

    private static void setsByRank() {
        HeroSheet x = ten();
        x.rule(2, 0, 0, 0, -1);
        due.is("set: to 0, not the base", x.number(0, 0), 0);
        x.rule(2, 0, 8, 1, -1);
        x.rule(2, 0, 9, 2, -1);
        x.rule(2, 0, 9, 2, -1);
        x.rule(2, 0, 8, 1000, -1);
        due.is("set: the greatest rank", x.number(0, 0), 2);
        how("set", x, 0, 4, 2);
        how("set", x, 1, 4, 2);
        how("set", x, 2, 2, -1);
        how("set: of like ones the least number", x, 3, 4, 2);
        how("set", x, 4, 4, 2);
        x.test(1, 0);
        x.rule(4, 2, 0, 0, -1);
        x.make(0, true);
        due.is("set: the next one", x.number(0, -1), 2);
        how("set: not there", x, 2, 0, -1);
        how("set: the next one", x, 3, 2, -1);
        how("set: of the next one", x, 1, 4, 3);
    }

    private static void setsOnEachBase() {
        for (int base = -99; base <= 99; base++) {
            HeroSheet x = new HeroSheet();
            x.value(1, base, 0);
            due.is("base " + base, x.number(0, 0), base);
            x.rule(0, 0, 0, 4, -1);
            due.is("base " + base + " and a boon", x.number(0, 0), base + 4);
            x.rule(2, 0, 0, 7, -1);
            due.is("set, whatever the base " + base, x.number(0, 0), 7 + 4);
        }
    }

    private static int quarrel(int... ranksAndAmounts) {
        HeroSheet x = ten();
        for (int i = 0; i < ranksAndAmounts.length; i += 2) {
            x.rule(2, 0, ranksAndAmounts[i], ranksAndAmounts[i + 1], -1);
        }
        return x.valueTold(0, 5);
    }

    private static void quarrels() {
        due.is("quarrel: no set", quarrel(), 0);
        due.is("quarrel: one set", quarrel(5, 1), 0);
        due.is("quarrel: the same amount", quarrel(5, 1, 5, 1), 0);
        due.is("quarrel: another amount", quarrel(5, 1, 5, 2), 1);
        due.is("quarrel: another rank", quarrel(5, 1, 4, 2), 0);
        due.is("quarrel: a greater rank", quarrel(5, 1, 6, 2), 0);
        due.is("quarrel: of beaten ones", quarrel(5, 1, 5, 2, 6, 3), 0);
        due.is("quarrel: with the third", quarrel(5, 1, 5, 1, 5, 2), 1);
        due.is("quarrel: among likes, a lesser one between", quarrel(5, 1, 4, 7, 5, 2), 1);
        due.is("quarrel: the base is no set", quarrel(0, 11), 0);
        HeroSheet x = ten();
        x.rule(2, 0, 1, 1, -1);
        x.test(1, 3);
        x.rule(2, 0, 1, 2, -1);
        due.is("quarrel: it does not hold", x.valueTold(0, 5), 0);
        x.make(3, true);
        due.is("quarrel: it holds", x.valueTold(0, 5), 1);
        x.rule(4, 0, 0, 0, -1);
        due.is("quarrel: the other is not there", x.valueTold(0, 5), 0);
        due.is("quarrel: one is left", x.number(0, -1), 2);
        HeroSheet y = ten();
        y.value(1, 0, 0);
        y.value(1, 0, 0);
        for (int v = 0; v <= 2; v += 2) {
            y.rule(2, v, 0, 1, -1);
            y.rule(2, v, 0, 2, -1);
        }
        int[] both = {1, 0, 1};
        for (int v = 0; v <= 2; v++) {
            due.is("quarrel: of two values, " + v, y.valueTold(v, 5), both[v]);
        }
    }

    // The sets stand anywhere among other rules, with any source; only rank and amount matter.
    private static void quarrelsAmongOthers() {
        for (int first = 0; first <= 4; first++) {
            for (int source = 0; source <= 4; source++) {
                HeroSheet x = ten();
                x.value(1, 0, 0);
                x.value(1, 0, 0);
                for (int r = 0; r < first; r++) {
                    x.rule(r % 2 == 0 ? 0 : 2, r % 2, 0, 100 + r, -1);
                }
                String name = "quarrel after " + first + ", source " + source;
                x.rule(2, 2, 3 + 16 * source, 7, -1);
                x.rule(0, 1, 0, 50, -1);
                x.rule(2, 2, 3 + 16 * source, 7, -1);
                due.is(name + ": none", x.valueTold(2, 5), 0);
                x.rule(2, 2, 3 + 16 * source, 6, -1);
                due.is(name, x.valueTold(2, 5), 1);
                due.is(name + ": the first counts", x.number(2, 0), 7);
                how(name, x, first + 3, 4, first);
            }
        }
    }

    private static void typedAroundZero() {
        HeroSheet x = ten();
        x.typed(1, 0, 0, 0, -1);
        how("typed: 0 alone", x, 0, 4, -1);
        x.typed(1, 0, 0, 1, -1);
        how("typed: 1 is above 0", x, 1, 2, -1);
        how("typed: 0 is beaten by none", x, 0, 4, -1);
        due.is("typed: 1", x.number(0, 0), 11);
        x.typed(1, 0, 0, -1, -1);
        how("typed: -1 is below 0", x, 2, 2, -1);
        due.is("typed: 1 and -1", x.number(0, 0), 10);
        x.typed(1, 0, 0, 2, -1);
        x.typed(1, 0, 0, -2, -1);
        how("typed: 1 by 2", x, 1, 4, 3);
        how("typed: -1 by -2", x, 2, 4, 4);
        x.typed(1, 0, 0, 2, -1);
        x.typed(1, 0, 0, -2, -1);
        how("typed: of like ones above 0 the first", x, 5, 4, 3);
        how("typed: of like ones below 0 the first", x, 6, 4, 4);
        how("typed: 2", x, 3, 2, -1);
        how("typed: -2", x, 4, 2, -1);
        x.typed(1, 0, 0, 5, -1);
        due.is("typed: 5 and -2", x.number(0, 0), 13);
        how("typed: 2 by 5", x, 3, 4, 7);
    }

    private static void typedApart() {
        HeroSheet x = ten();
        x.value(1, 20, 0);
        for (int type = 1; type <= 5; type++) {
            x.typed(type, 0, 0, type, -1);
            x.typed(type, 1, 0, type, -1);
        }
        due.is("typed: types do not beat one another", x.number(0, 0), 10 + 15);
        due.is("typed: nor those of another value", x.number(1, 0), 20 + 15);
        x.test(1, 0);
        x.typed(5, 0, 0, 9, -1);
        due.is("typed: one that does not hold beats none", x.number(0, 0), 10 + 15);
        how("typed: it does not hold", x, 10, 1, -1);
        due.is("typed: it holds", x.number(0, 1), 10 + 10 + 9);
        x.test(1, 1);
        x.rule(4, 10, 0, 0, -1);
        due.is("typed: one that is not there beats none", x.number(0, 3), 10 + 15);
        x.rule(0, 0, 0, 100, -1);
        due.is("typed: rules of kind 0 all count", x.number(0, 3), 10 + 15 + 100);
        HeroSheet y = ten();
        y.value(1, 20, 0);
        y.typed(1, 0, 0, -5, -1);
        y.typed(1, 1, 0, -1, -1);
        y.typed(2, 1, 0, -5, -1);
        y.typed(2, 0, 0, -1, -1);
        due.is("typed: below 0, of two values", y.number(0, 0), 10 - 5 - 1);
        due.is("typed: below 0, of the other one", y.number(1, 0), 20 - 1 - 5);
        for (int r = 0; r < 4; r++) {
            how("typed: below 0, apart", y, r, 2, -1);
        }
    }

    private static void stacking() {
        for (int type = 1; type <= 5; type++) {
            HeroSheet x = ten();
            for (int t = 1; t <= 5; t++) {
                x.typed(t, 0, 0, 1, -1);
                x.typed(t, 0, 0, 1, -1);
                x.typed(t, 0, 0, 0, -1);
                x.typed(t, 0, 0, -3, -1);
                x.typed(t, 0, 0, -4, -1);
            }
            due.is("8 none stacks", x.number(0, 0), 10 + 5 * (1 - 4));
            due.is("8 type " + type + " stacks", x.stack(type, true), 1);
            due.is("8 of type " + type + " all", x.number(0, 0), 10 + 4 * (1 - 4) + 2 - 7);
            for (int r = 0; r < 25; r++) {
                boolean best = r % 5 == 0 || r % 5 == 4;
                due.is("8 how " + r + " is", x.ruleTold(r, 7), r / 5 + 1 == type || best ? 2 : 4);
            }
            how("8 of 0 that stacks", x, 5 * type - 3, 2, -1);
            due.is("8 type " + type + " stacks no more", x.stack(type, false), 1);
            due.is("8 as before", x.number(0, 0), 10 + 5 * (1 - 4));
        }
    }

    private static void twice() {
        for (int source = 0; source <= 20; source++) {
            HeroSheet x = ten();
            x.rule(0, 0, 16 * source, 1, -1);
            x.rule(0, 0, 16 * source, 10, -1);
            x.typed(1, 0, 16 * source, 100, -1);
            due.is("twice: source " + source, x.number(0, 0), source == 0 ? 121 : 11);
            how("twice: source " + source, x, 1, source == 0 ? 2 : 3, source == 0 ? -1 : 0);
            how("twice: source " + source, x, 2, source == 0 ? 2 : 3, source == 0 ? -1 : 0);
        }
        HeroSheet x = ten();
        x.value(1, 0, 0);
        int more = 16 * 7;
        x.rule(2, 0, more, 20, -1);
        x.rule(7, 0, more, 3, -1);
        x.rule(0, 1, more, 6, -1);
        x.test(1, 0);
        x.rule(0, 0, more, 1, -1);
        x.test(0, 0);
        x.rule(0, 0, more, 2, -1);
        x.rule(0, 0, more + 16, 4, -1);
        x.rule(0, 0, more + 9, 8, -1);
        how("twice: sets, caps and other values take no source", x, 4, 2, -1);
        how("twice: the first that holds", x, 6, 3, 4);
        how("twice: another source", x, 5, 2, -1);
        due.is("twice: without the choice", x.number(0, 0), 20 + 2 + 4);
        x.make(0, true);
        how("twice: the first now", x, 4, 3, 3);
        how("twice: the last now", x, 6, 3, 3);
        due.is("twice: with the choice", x.number(0, -1), 20 + 1 + 4);
        x.rule(4, 3, 0, 0, -1);
        how("twice: the first is not there", x, 4, 2, -1);
        how("twice: the last then", x, 6, 3, 4);
    }

    // One that is twice is not looked at, so it beats none; a beaten one is looked at, so it makes others twice.
    private static void twiceAmongTyped() {
        HeroSheet x = ten();
        x.rule(0, 0, 16 * 20, 1, -1);
        x.typed(1, 0, 16 * 20, 9, -1);
        x.typed(1, 0, 0, 2, -1);
        x.typed(1, 0, 16, 1, -1);
        x.rule(0, 0, 16, 50, -1);
        how("twice and typed", x, 1, 3, 0);
        how("typed beside one that is twice", x, 2, 2, -1);
        how("beaten, of a source", x, 3, 4, 2);
        how("twice by a beaten one", x, 4, 3, 3);
        due.is("twice among typed ones", x.number(0, 0), 10 + 1 + 2);
        x.stack(1, true);
        how("twice though it stacks", x, 1, 3, 0);
        due.is("twice among stacking ones", x.number(0, 0), 10 + 1 + 2 + 1);
    }

    private static void spellsBeforeCaps() {
        HeroSheet x = ten();
        x.value(1, 0, 0);
        x.rule(2, 0, 0, 3, -1);
        x.spell(0, 20, 1);
        x.spell(0, -5, 2);
        x.spell(1, 9, 2);
        due.is("spells come upon a set", x.number(0, 0), 3 + 15);
        x.rule(3, 0, 0, 12, -1);
        due.is("spells come before caps", x.number(0, 0), 12);
        x.turn();
        due.is("one spell is over", x.number(0, 0), 3 - 5);
        x.rule(7, 0, 0, -1, -1);
        due.is("at least -1", x.number(0, 0), -1);
        x.turn();
        due.is("both are over", x.number(0, 0), 3);
        due.is("of another value too", x.number(1, 0), 0);
    }

    private static void capsAtTheirAmount() {
        int[] amounts = {9, 10, 11};
        for (int amount : amounts) {
            HeroSheet most = ten();
            most.rule(3, 0, 0, amount, -1);
            due.is("at most " + amount, most.number(0, 0), Math.min(10, amount));
            how("at most " + amount, most, 0, amount < 10 ? 2 : 4, -1);
            HeroSheet least = ten();
            least.rule(7, 0, 0, amount, -1);
            due.is("at least " + amount, least.number(0, 0), Math.max(10, amount));
            how("at least " + amount, least, 0, amount > 10 ? 2 : 4, -1);
        }
        HeroSheet x = ten();
        x.test(1, 0);
        x.rule(3, 0, 0, 1, -1);
        x.rule(7, 0, 0, 99, -1);
        due.is("caps that do not hold", x.number(0, 0), 10);
        how("at most that does not hold", x, 0, 1, -1);
        how("at least that does not hold", x, 1, 1, -1);
    }

    private static void capsInOrder() {
        HeroSheet x = ten();
        x.rule(3, 0, 0, 12, -1);
        x.rule(3, 0, 0, 11, -1);
        x.rule(3, 0, 0, 11, -1);
        x.rule(7, 0, 0, 20, -1);
        x.rule(7, 0, 0, 30, -1);
        x.rule(7, 0, 0, 25, -1);
        due.is("at least first, at most has the last word", x.number(0, 0), 11);
        int[] hows = {2, 2, 4, 2, 2, 4};
        for (int r = 0; r < hows.length; r++) {
            how("caps by numbers", x, r, hows[r], -1);
        }
        x.rule(7, 0, 0, 11, -1);
        how("at least what is passed already", x, 6, 4, -1);
    }

    private static void poolsAndTruths() {
        HeroSheet x = new HeroSheet();
        x.value(2, 5, 0);
        x.value(4, 0, 0);
        x.value(4, 99, 0);
        x.value(4, -99, 0);
        x.value(4, 1, 0);
        x.rule(3, 4, 0, 0, -1);
        due.is("nothing is spent at first", x.valueTold(0, 2), 0);
        due.is("a truth of 0", x.number(1, 0), 0);
        due.is("a truth of 99", x.number(2, 0), 1);
        due.is("a truth of -99", x.number(3, 0), 1);
        due.is("a truth after its cap", x.number(4, 0), 0);
        x.spell(1, -1, 1);
        due.is("a truth of -1", x.number(1, 0), 1);
        x.spell(2, -20, 20);
        for (int k = 0; k < 4; k++) {
            x.spell(2, -20, 20);
        }
        due.is("a truth of 99 - 100", x.number(2, 0), 1);
        x.spell(2, 1, 1);
        due.is("a truth of 99 - 99", x.number(2, 0), 0);
        x.rule(7, 0, 0, 5, -1);
        x.spend(0, 4);
        due.is("spent after at least", x.number(0, 0), 1);
        x.rule(3, 0, 0, 2, -1);
        due.is("spent after at most, below 0", x.number(0, 0), -2);
        due.is("so none can be spent", x.spend(0, 1), -1);
        due.is("it is not so", x.status(), 3);
    }

    private static void poolsBelowZero() {
        int[] mosts = {1, 0, -1, -1000};
        for (int most : mosts) {
            HeroSheet x = new HeroSheet();
            x.value(2, 9, 0);
            due.is("12 some is left", x.spend(0, 4), 5);
            x.rule(3, 0, 0, most, -1);
            due.is("17 what is spent is taken from " + most, x.number(0, 0), most - 4);
            due.is("13 one pool", x.rest(), 1);
            due.is("17 nothing is taken from " + most, x.number(0, 0), most);
        }
    }

    // A truth becomes 1 after its caps, so these see what it was before.
    private static void truthsAfterCaps() {
        int[][] caps = {{99, 3, 50, 2, 1}, {99, 3, 99, 4, 1}, {99, 7, 50, 4, 1}, {0, 7, 5, 2, 1}, {-99, 7, 0, 2, 0},
            {-99, 7, -50, 2, 1}, {2, 3, 1, 2, 1}, {2, 3, 0, 2, 0}, {2, 3, -1, 2, 1}, {0, 3, 0, 4, 0}};
        for (int[] cap : caps) {
            HeroSheet x = new HeroSheet();
            x.value(4, cap[0], 0);
            x.rule(cap[1], 0, 0, cap[2], -1);
            String name = "a truth of " + cap[0] + (cap[1] == 3 ? ", at most " : ", at least ") + cap[2];
            how(name, x, 0, cap[3], -1);
            due.is(name, x.number(0, 0), cap[4]);
        }
    }

    private static void amountsCut() {
        int[][] cuts = {{1, 1, 0}, {1, 9, 4}, {1, 2, 1}, {-1, 1, 0}, {-1, 9, -4}, {-1, 2, -1}, {0, 9, 0},
            {-3, 1, -1}, {3, 1, 1}, {99, 9, 445}, {-99, 9, -445}, {99, 1, 49}, {-99, 1, -49}};
        for (int[] cut : cuts) {
            HeroSheet x = ten();
            x.value(0, cut[0], 0);
            x.rule(0, 0, 0, 0, 1 + 16 * cut[1]);
            x.rule(0, 0, 0, 7, 1 + 16 * cut[1]);
            x.rule(0, 0, 0, -7, 1 + 16 * cut[1]);
            x.rule(3, 0, 0, -1, 1 + 16 * cut[1]);
            x.rule(3, 0, 0, 1, 1 + 16 * cut[1]);
            String name = "amount: " + cut[0] + " times " + cut[1] + " by 2";
            due.is(name, x.amount(0), cut[2]);
            due.is(name + " and 7", x.amount(1), 7 + cut[2]);
            due.is(name + " and -7", x.amount(2), cut[2] - 7);
            due.is(name + " and -1", x.amount(3), cut[2] - 1);
            due.is(name + " and 1", x.amount(4), 1 + cut[2]);
            due.is(name + " three times, at most once less 1", x.number(0, 0), Math.min(10 + 3 * cut[2], cut[2] - 1));
        }
    }

    private static void amountsRead() {
        HeroSheet x = Due.five();
        x.value(1, 0, 0);
        for (int v = 0; v < 5; v++) {
            x.rule(0, 5, 0, 0, v + 16 * 2);
        }
        due.is("a value, a sum, a pool, dice and a truth are read", x.number(5, 0), 10 + 2 + 5 + 1);
        x.spend(2, 4);
        due.is("what is spent is read", x.amount(2), 1);
        x.spell(4, 7, 1);
        due.is("a truth is read as 1", x.amount(4), 1);
        x.rule(3, 0, 0, 3, -1);
        due.is("what is capped is read", x.amount(0), 3);
        due.is("all of them", x.number(5, 0), 3 + 2 + 1 + 1 + 1);
        x.test(1, 0);
        x.rule(3, 5, 0, 0, 16 * 2);
        due.is("a cap reads, though it does not hold", x.amount(6), 3);
        due.is("a cap by a value", x.number(5, 1), 3);
    }

    // Each place of the chain, and beside it values that it reads, too: each comes after all that it needs.
    private static void readInAnyOrder() {
        int[][] orders = {{0, 1, 2, 3}, {3, 2, 1, 0}, {1, 3, 0, 2}, {2, 0, 3, 1}, {0, 2, 1, 3}, {3, 1, 2, 0}};
        for (int[] order : orders) {
            HeroSheet x = new HeroSheet();
            for (int v = 0; v < 10; v++) {
                x.value(1, 1, 0);
            }
            // The first reads the second alone; the second the third and 4 .. 6; the third the fourth and 7; that one 8, 9.
            int[][] reads = {{order[1]}, {order[2], 4, 5, 6}, {order[3], 7}, {8, 9}};
            for (int k = 0; k < 4; k++) {
                for (int v : reads[k]) {
                    x.rule(0, order[k], 0, 0, v + 16 * 2);
                }
            }
            x.test(1, 0);
            x.rule(0, 9, 0, 10, -1);
            long[] sums = {1 + 9, 1 + 5 + 3, 1 + 3 + 1, 1 + 2};
            for (int k = 0; k < 4; k++) {
                due.is("read in any order", x.number(order[k], 0), sums[k]);
                due.is("read in any order, with the choice", x.number(order[k], 1), sums[k] + 10);
            }
        }
    }

    private static void testsAtTheirNumber() {
        for (int n = 9; n <= 11; n++) {
            HeroSheet x = ten();
            x.value(1, 0, 0);
            x.testValue(0, false, n);
            x.rule(0, 1, 0, 1, -1);
            x.testValue(0, true, n);
            x.rule(0, 1, 0, 2, -1);
            due.is("10 is at least " + n, x.ruleTold(0, 6), n <= 10 ? 1 : 0);
            due.is("10 is below " + n, x.ruleTold(1, 6), n > 10 ? 1 : 0);
            due.is("one of both holds", x.number(1, 0), n <= 10 ? 1 : 2);
            how("at least " + n, x, 0, n <= 10 ? 2 : 1, -1);
            how("below " + n, x, 1, n <= 10 ? 1 : 2, -1);
        }
    }

    private static void testsFarOut() {
        int[] sets = {-1000, 1000};
        for (int set : sets) {
            for (int more = -1; more <= 1; more++) {
                HeroSheet x = ten();
                x.value(1, 0, 0);
                x.rule(2, 0, 0, set, -1);
                x.rule(0, 0, 0, more, -1);
                x.testValue(0, false, set);
                x.rule(0, 1, 0, 1, -1);
                x.testValue(0, true, set);
                x.rule(0, 1, 0, 2, -1);
                due.is("number " + (set + more) + " against " + set, x.number(1, 0), more >= 0 ? 1 : 2);
            }
        }
    }

    /** Rule 1 is beaten by 2 with choice 0, else by none; it reads value 1, which choice 0 makes greater. */
    private static HeroSheet turning() {
        HeroSheet x = ten();
        x.value(1, 3, 0);
        x.test(1, 0);
        x.rule(0, 1, 0, 4, -1);
        x.test(0, 0);
        x.typed(1, 0, 0, 1, 1 + 16 * 2);
        x.test(1, 0);
        x.typed(1, 0, 0, 20, -1);
        x.test(2, 0);
        x.rule(2, 0, 0, 50, -1);
        x.rule(2, 0, 0, 60, -1);
        x.rule(4, 2, 0, 0, -1);
        return x;
    }

    // Each question is the first one after the change, so that none tells what another one has worked out.
    private static void eachAskedFirst() {
        Twins.Call[] asked = {x -> x.amount(1), x -> x.ruleTold(1, 7), x -> x.ruleTold(1, 8), x -> x.ruleTold(2, 5),
            x -> x.ruleTold(2, 6), x -> x.ruleTold(2, 7), x -> x.valueTold(0, 5), x -> x.number(0, -1), x -> x.number(1, -1)};
        long[] without = {4, 2, -1, 0, 0, 0, 1, 54, 3};
        long[] with = {8, 4, 2, 1, 1, 2, 0, 30, 7};
        for (int q = 0; q < asked.length; q++) {
            HeroSheet x = turning();
            due.is("asked first, " + q, asked[q].on(x), without[q]);
            x.make(0, true);
            due.is("asked first with the choice, " + q, asked[q].on(x), with[q]);
            x.make(0, false);
            due.is("asked first without it again, " + q, asked[q].on(x), without[q]);
            x.make(0, true);
            x.number(0, 0);
            due.is("asked after another sheet, " + q, asked[q].on(x), with[q]);
            x.lawful(255);
            x.spell(1, -20, 1);
            due.is("asked after a spell, " + q, asked[q].on(x), new long[] {-12, 2, -1, 1, 1, 2, 0, 18, -13}[q]);
        }
    }
}
