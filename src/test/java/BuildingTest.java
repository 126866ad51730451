/** Promises 1 to 15: what builds and changes a sheet. */
public final class BuildingTest {
    private static final Due due = new Due();
    private static final int MIN = Integer.MIN_VALUE;
    private static final int MAX = Integer.MAX_VALUE;

    public static void main(String[] args) {
        newObject();
        value();
        free();
        test();
        testValue();
        rule();
        ruleRefusals();
        ringRefusals();
        typed();
        stack();
        make();
        spell();
        turn();
        spend();
        rest();
        image();
        back();
        due.end();
    }

    private static void newObject() {
        HeroSheet x = new HeroSheet();
        for (int what = 0; what <= 8; what++) {
            due.is("1 new count " + what, x.count(what), what == 6 ? 1 : 0);
        }
        for (int c = 0; c < 8; c++) {
            due.is("1 new made " + c, x.choice(c, 0), 0);
            due.is("1 new free " + c, x.choice(c, 1), 0);
            due.is("1 new open " + c, x.choice(c, 2), 0);
        }
        for (int type = 1; type <= 5; type++) {
            due.done("1 new stacks " + type, x, x.stack(type, false), 0);
        }
        for (int sheet = 0; sheet < 4; sheet++) {
            due.refused("1 new sheet " + sheet, x, x.cell(sheet, 0, 0), 10);
        }
        due.is("1 new status", new HeroSheet().status(), 0);
        due.refused("1 new back", x, x.back(), 3);
    }

    private static void value() {
        HeroSheet x = new HeroSheet();
        due.refused("2 kind 5", x, x.value(5, 0, 0), 1);
        due.refused("2 kind -1", x, x.value(-1, 0, 0), 1);
        due.refused("2 base 100", x, x.value(0, 100, 0), 1);
        due.refused("2 base -100", x, x.value(0, -100, 0), 1);
        due.refused("2 base least", x, x.value(0, MIN, 0), 1);
        due.refused("2 no dice", x, x.value(3, 0, 8 * 6), 1);
        due.refused("2 six dice", x, x.value(3, 0, 6 + 8 * 6), 1);
        due.refused("2 one side", x, x.value(3, 0, 1 + 8), 1);
        due.refused("2 13 sides", x, x.value(3, 0, 1 + 8 * 13), 1);
        due.refused("2 more -1", x, x.value(3, 0, -1), 1);
        due.refused("2 more least", x, x.value(3, 0, MIN), 1);
        due.is("2 none came", x.count(0), 0);
        due.done("2 base 99", x, x.value(0, 99, MIN), 0);
        due.done("2 base -99", x, x.value(1, -99, MAX), 1);
        due.done("2 pool", x, x.value(2, 1, -1), 2);
        due.done("2 5 of 12", x, x.value(3, 2, 5 + 8 * 12), 3);
        due.done("2 1 of 2", x, x.value(3, 3, 1 + 8 * 2), 4);
        due.done("2 truth", x, x.value(4, 4, 7), 5);
        for (int v = 6; v < 10; v++) {
            due.done("2 value " + v, x, x.value(0, v, 0), v);
        }
        due.refused("2 an eleventh", x, x.value(0, 0, 0), 2);
        due.refused("2 wrong before full", x, x.value(5, 0, 0), 1);
        due.is("2 ten", x.count(0), 10);
        due.is("2 count of a pool", x.valueTold(2, 3), 0);
        due.is("2 base told", x.valueTold(1, 1), -99);
    }

    private static void free() {
        HeroSheet x = new HeroSheet();
        due.done("3 free", x, x.free(0, true), 1);
        due.done("3 free again", x, x.free(0, true), 0);
        due.is("3 told", x.choice(0, 1), 1);
        due.is("3 open", x.choice(0, 2), 1);
        due.done("3 no more", x, x.free(0, false), 1);
        due.done("3 no more again", x, x.free(0, false), 0);
        due.is("3 shut", x.choice(0, 2), 0);
        due.done("3 the last", x, x.free(7, true), 1);
        due.refused("3 choice 8", x, x.free(8, true), 1);
        due.refused("3 choice -1", x, x.free(-1, true), 1);
        due.is("3 nothing else", x.count(6), 2);
    }

    private static void test() {
        HeroSheet x = Due.five();
        due.done("4 made", x, x.test(1, 3), 1);
        x.rule(0, 0, 0, 1, -1);
        due.done("4 not made", x, x.test(2, 3), 1);
        x.rule(0, 0, 0, 20, -1);
        due.refused("4 how 3", x, x.test(3, 0), 1);
        due.refused("4 how -1", x, x.test(-1, 0), 1);
        due.refused("4 choice 8", x, x.test(1, 8), 1);
        due.refused("4 choice -1", x, x.test(2, -1), 1);
        x.rule(0, 0, 0, 40, -1);
        due.done("4 always", x, x.test(0, 0), 1);
        x.rule(0, 0, 0, 100, -1);
        due.is("4 on the empty sheet", x.number(0, 0), 10 + 20 + 40 + 100);
        due.is("4 with the choice", x.number(0, 8), 10 + 1 + 100);
        due.is("4 with others", x.number(0, 255 - 8), 10 + 20 + 40 + 100);
    }

    private static void testValue() {
        HeroSheet x = Due.five();
        due.done("5 at least 10", x, x.testValue(0, false, 10), 1);
        x.rule(0, 1, 0, 1, -1);
        due.done("5 at least 11", x, x.testValue(0, false, 11), 1);
        x.rule(0, 1, 0, 10, -1);
        due.done("5 below 10", x, x.testValue(0, true, 10), 1);
        x.rule(0, 1, 0, 100, -1);
        due.done("5 below 11", x, x.testValue(0, true, 11), 1);
        x.rule(0, 1, 0, 1000, -1);
        due.is("5 which hold", x.number(1, 0), 2 + 1 + 1000);
        due.refused("5 value 5", x, x.testValue(5, false, 0), 1);
        due.refused("5 value -1", x, x.testValue(-1, false, 0), 1);
        due.refused("5 1001", x, x.testValue(0, false, 1001), 1);
        due.refused("5 -1001", x, x.testValue(0, true, -1001), 1);
        due.done("5 1000", x, x.testValue(0, true, 1000), 1);
        due.done("5 -1000", x, x.testValue(0, false, -1000), 1);
        x.rule(5, 0, 0, 0, -1);
        due.is("5 opens by a value", x.choice(0, 2), 1);
        x.testValue(0, true, -1000);
        x.rule(5, 1, 0, 0, -1);
        due.is("5 does not open", x.choice(1, 2), 0);
    }

    private static void rule() {
        HeroSheet x = Due.five();
        due.done("6 a rule", x, x.rule(0, 0, 9 + 16 * 20, 1000, 3 + 16 * 9), 0);
        due.done("6 a set", x, x.rule(2, 1, 0, -1000, -1), 1);
        due.done("6 at most", x, x.rule(3, 1, 0, 0, -1), 2);
        due.done("6 at least", x, x.rule(7, 1, 0, 0, 2 + 16), 3);
        due.done("6 instead", x, x.rule(4, 1, 5 + 16 * 7, MAX, MIN), 4);
        due.done("6 opens", x, x.rule(5, 7, 1, 5000, 99), 5);
        due.done("6 bars", x, x.rule(6, 0, 2, -5000, -7), 6);
        int[] kinds = {0, 2, 3, 3, 4, 5, 6};
        for (int i = 0; i < 7; i++) {
            due.is("6 kind of " + i, x.ruleTold(i, 0), kinds[i]);
        }
        due.is("6 amount by a value", x.amount(0), 1000 + 1 * 9 / 2);
        due.is("6 rank", x.ruleTold(0, 2), 9);
        due.is("6 source", x.ruleTold(0, 3), 20);
        due.is("6 rank of an instead", x.ruleTold(4, 2), 5);
        due.is("6 source of an instead", x.ruleTold(4, 3), 7);
        HeroSheet full = Due.five();
        for (int i = 0; i < 30; i++) {
            due.done("6 rule " + i, full, full.rule(0, 0, 0, 1, -1), i);
        }
        due.refused("6 a 31st", full, full.rule(0, 0, 0, 1, -1), 2);
        due.refused("6 full before a ring", full, full.rule(0, 0, 0, 1, 16), 2);
        due.is("6 no ring kept", full.count(8), 0);
        due.refused("6 wrong before full", full, full.rule(0, 5, 0, 1, -1), 1);
        due.is("6 thirty", full.number(0, 0), 40);
    }

    private static void ruleRefusals() {
        HeroSheet x = Due.five();
        due.refused("6 kind 1", x, x.rule(1, 0, 0, 0, -1), 1);
        due.refused("6 kind 8", x, x.rule(8, 0, 0, 0, -1), 1);
        due.refused("6 kind -1", x, x.rule(-1, 0, 0, 0, -1), 1);
        due.refused("6 aim 5", x, x.rule(0, 5, 0, 0, -1), 1);
        due.refused("6 aim -1", x, x.rule(2, -1, 0, 0, -1), 1);
        due.refused("6 rank 10", x, x.rule(0, 0, 10, 0, -1), 1);
        due.refused("6 source 21", x, x.rule(0, 0, 16 * 21, 0, -1), 1);
        due.refused("6 more -1", x, x.rule(0, 0, -1, 0, -1), 1);
        due.refused("6 more least", x, x.rule(5, 0, MIN, 0, -1), 1);
        due.refused("6 rank 10 of opens", x, x.rule(5, 0, 10, 0, -1), 1);
        due.refused("6 amount 1001", x, x.rule(3, 0, 0, 1001, -1), 1);
        due.refused("6 amount -1001", x, x.rule(7, 0, 0, -1001, -1), 1);
        due.refused("6 factor 0", x, x.rule(0, 0, 0, 0, 1), 1);
        due.refused("6 factor 10", x, x.rule(0, 0, 0, 0, 1 + 16 * 10), 1);
        due.refused("6 by value 5", x, x.rule(0, 0, 0, 0, 5 + 16), 1);
        due.refused("6 by -2", x, x.rule(0, 0, 0, 0, -2), 1);
        due.refused("6 by least", x, x.rule(0, 0, 0, 0, MIN), 1);
        due.refused("6 instead of none", x, x.rule(4, 0, 0, 0, -1), 1);
        due.refused("6 opens 8", x, x.rule(5, 8, 0, 0, -1), 1);
        due.refused("6 bars -1", x, x.rule(6, -1, 0, 0, -1), 1);
        x.rule(0, 0, 0, 1, -1);
        due.refused("6 instead of itself", x, x.rule(4, 1, 0, 0, -1), 1);
        x.testValue(0, false, 0);
        due.refused("6 instead by a value", x, x.rule(4, 0, 0, 0, -1), 1);
        x.test(1, 0);
        due.done("6 instead by a choice", x, x.rule(4, 0, 0, 0, -1), 1);
        due.is("6 two came", x.count(1), 2);
    }

    private static void ringRefusals() {
        HeroSheet x = Due.five();
        due.refused("6 reads its aim", x, x.rule(0, 3, 0, 0, 3 + 16), 4);
        x.rule(0, 1, 0, 0, 16);
        due.refused("6 two in a ring", x, x.rule(2, 0, 0, 0, 1 + 16), 4);
        x.testValue(1, false, 0);
        due.refused("6 a ring by a test", x, x.rule(7, 0, 0, 0, -1), 4);
        due.done("6 opens are in no ring", x, x.rule(5, 0, 0, 0, -1), 1);
        due.is("6 nothing needs", x.needs(0, 1), 0);
        due.is("6 two rules", x.count(1), 2);
    }

    private static void typed() {
        HeroSheet x = Due.five();
        due.refused("7 type 0", x, x.typed(0, 0, 0, 0, -1), 1);
        due.refused("7 type 6", x, x.typed(6, 0, 0, 0, -1), 1);
        due.refused("7 aim 5", x, x.typed(1, 5, 0, 0, -1), 1);
        due.refused("7 rank 15", x, x.typed(1, 0, 15, 0, -1), 1);
        due.refused("7 amount", x, x.typed(1, 0, 0, 1001, -1), 1);
        due.refused("7 by", x, x.typed(1, 0, 0, 0, 16 * 10), 1);
        due.refused("7 ring", x, x.typed(1, 0, 0, 0, 16), 4);
        due.done("7 type 1", x, x.typed(1, 0, 0, 3, -1), 0);
        due.done("7 type 5", x, x.typed(5, 0, 4 + 16 * 2, 4, 1 + 16 * 3), 1);
        due.is("7 kind", x.ruleTold(1, 0), 1);
        due.is("7 type told", x.ruleTold(1, 4), 5);
        due.is("7 amount told", x.amount(1), 4 + 3);
        due.is("7 types add up", x.number(0, 0), 10 + 3 + 7);
        for (int i = 2; i < 30; i++) {
            due.done("7 rule " + i, x, x.typed(1, 0, 0, 5, -1), i);
        }
        due.refused("7 full", x, x.typed(1, 0, 0, 5, -1), 2);
        due.is("7 likes count once", x.number(0, 0), 10 + 5 + 7);
    }

    private static void stack() {
        HeroSheet x = Due.five();
        x.typed(2, 0, 0, 3, -1);
        x.typed(2, 0, 0, 4, -1);
        x.typed(2, 0, 0, -1, -1);
        x.typed(2, 0, 0, -5, -1);
        due.is("8 greatest and least", x.number(0, 0), 10 + 4 - 5);
        due.done("8 stacks", x, x.stack(2, true), 1);
        due.done("8 stacks again", x, x.stack(2, true), 0);
        due.is("8 all", x.number(0, 0), 10 + 3 + 4 - 1 - 5);
        due.done("8 no more", x, x.stack(2, false), 1);
        due.is("8 as before", x.number(0, 0), 9);
        due.done("8 another", x, x.stack(1, true), 1);
        due.is("8 another does not matter", x.number(0, 0), 9);
        due.done("8 the last", x, x.stack(5, true), 1);
        due.refused("8 type 0", x, x.stack(0, true), 1);
        due.refused("8 type 6", x, x.stack(6, true), 1);
    }

    private static void make() {
        HeroSheet x = new HeroSheet();
        due.refused("9 is not made", x, x.make(3, false), 3);
        due.done("9 made, not open", x, x.make(3, true), 1);
        due.refused("9 is made", x, x.make(3, true), 3);
        due.done("9 two", x, x.make(7, true), 2);
        due.is("9 bits", x.count(5), 136);
        due.done("9 one", x, x.make(3, false), 1);
        due.is("9 bits then", x.count(5), 128);
        due.refused("9 choice 8", x, x.make(8, true), 1);
        due.refused("9 choice -1", x, x.make(-1, false), 1);
    }

    private static void spell() {
        HeroSheet x = Due.five();
        due.is("10 before", x.number(0, 0), 10);
        due.done("10 one", x, x.spell(0, 20, 1), 1);
        due.is("10 after", x.number(0, 0), 30);
        due.done("10 two", x, x.spell(0, -20, 20), 2);
        due.done("10 three", x, x.spell(4, 5, 2), 3);
        due.is("10 on its value", x.number(0, 0), 10);
        due.is("10 on a truth", x.number(4, 0), 1);
        due.refused("10 value 5", x, x.spell(5, 0, 1), 1);
        due.refused("10 value -1", x, x.spell(-1, 0, 1), 1);
        due.refused("10 number 21", x, x.spell(0, 21, 1), 1);
        due.refused("10 number -21", x, x.spell(0, -21, 1), 1);
        due.refused("10 no turns", x, x.spell(0, 0, 0), 1);
        due.refused("10 21 turns", x, x.spell(0, 0, 21), 1);
        x.turn();
        due.is("10 one is over", x.number(0, 0), -10);
        due.done("10 those that are over count", x, x.spell(0, 1, 1), 4);
        for (int k = 5; k <= 10; k++) {
            due.done("10 spell " + k, x, x.spell(1, 0, 1), k);
        }
        due.refused("10 an eleventh", x, x.spell(1, 0, 1), 2);
        due.refused("10 wrong before full", x, x.spell(1, 0, 0), 1);
        due.is("10 ten", x.count(2), 10);
    }

    private static void turn() {
        HeroSheet x = Due.five();
        x.spell(0, 1, 1);
        x.spell(0, 2, 2);
        x.spell(1, 3, 2);
        due.done("11 one ends", x, x.turn(), 1);
        due.is("11 the turn", x.count(4), 1);
        due.is("11 two last", x.count(3), 2);
        due.is("11 number", x.number(0, 0), 12);
        due.done("11 two end", x, x.turn(), 2);
        due.is("11 number then", x.number(0, 0), 10);
        due.done("11 none ends", x, x.turn(), 0);
        x.spell(0, 4, 20);
        for (int i = 0; i < 19; i++) {
            due.done("11 it lasts", x, x.turn(), 0);
        }
        due.is("11 still", x.number(0, 0), 14);
        due.done("11 the 20th", x, x.turn(), 1);
        due.is("11 the turn then", x.count(4), 23);
    }

    private static void spend() {
        HeroSheet x = Due.five();
        due.refused("12 below 0", x, x.spend(2, 6), 3);
        due.done("12 some", x, x.spend(2, 2), 3);
        due.is("12 spent", x.valueTold(2, 2), 2);
        due.is("12 number", x.number(2, 0), 3);
        due.refused("12 too much", x, x.spend(2, 4), 3);
        due.is("12 still spent", x.valueTold(2, 2), 2);
        due.done("12 all", x, x.spend(2, 3), 0);
        due.refused("12 no more", x, x.spend(2, 1), 3);
        due.refused("12 n 0", x, x.spend(2, 0), 1);
        due.refused("12 n 1001", x, x.spend(2, 1001), 1);
        due.refused("12 n least", x, x.spend(2, MIN), 1);
        due.refused("12 no pool", x, x.spend(1, 1), 1);
        due.refused("12 no value", x, x.spend(5, 1), 1);
        due.refused("12 value -1", x, x.spend(-1, 1), 1);
        x.rule(0, 2, 0, 1000, -1);
        due.done("12 n 1000", x, x.spend(2, 1000), 0);
        x.rule(3, 2, 0, 6, -1);
        due.is("12 spent is taken after caps", x.number(2, 0), 6 - 1005);
        spendOfMuch();
    }

    // Twelve times as much a step, nine times over: more than 32 bits hold.
    private static void spendOfMuch() {
        HeroSheet x = new HeroSheet();
        x.value(0, 0, 0);
        x.rule(0, 0, 0, 1000, -1);
        for (int v = 1; v < 10; v++) {
            x.value(v == 9 ? 2 : 1, 0, 0);
            for (int k = 0; k < 3; k++) {
                x.rule(0, v, 0, 0, v - 1 + 16 * 8);
            }
        }
        long great = 1000;
        for (int v = 1; v < 10; v++) {
            great *= 12;
        }
        due.is("12 a great number", x.number(9, 0), great);
        due.done("12 cut to 32 bits", x, x.spend(9, 7), (int) (great - 7));
    }

    private static void rest() {
        HeroSheet x = Due.five();
        x.value(2, 9, 0);
        x.value(2, 9, 0);
        due.done("13 none had", x, x.rest(), 0);
        x.spend(2, 1);
        x.spend(6, 2);
        due.is("13 number before", x.number(6, 0), 7);
        due.done("13 two had", x, x.rest(), 2);
        due.is("13 nothing spent", x.valueTold(2, 2), 0);
        due.is("13 number", x.number(6, 0), 9);
        due.done("13 none again", x, x.rest(), 0);
    }

    private static void image() {
        HeroSheet x = Due.five();
        x.make(1, true);
        due.done("14 image", x, x.image(), 1);
        x.make(2, true);
        due.is("14 changes nothing", x.count(5), 6);
        due.done("14 in place of one before", x, x.image(), 1);
        x.make(3, true);
        x.back();
        due.is("14 the later one", x.count(5), 6);
        x.make(4, true);
        x.back();
        due.is("14 it stays", x.count(5), 6);
    }

    private static void back() {
        HeroSheet x = Due.five();
        due.refused("15 none", x, x.back(), 3);
        x.free(0, true);
        x.make(1, true);
        x.stack(1, true);
        x.typed(1, 0, 0, 1, -1);
        x.typed(1, 0, 0, 2, -1);
        x.spell(0, 3, 3);
        x.turn();
        x.spend(2, 1);
        x.image();
        change(x);
        due.is("15 number before", x.number(0, -1), 10 + 2);
        due.is("15 choice before", x.choice(0, 2), 0);
        due.done("15 back", x, x.back(), 1);
        due.is("15 choice after", x.choice(0, 2), 1);
        int[] counts = {5, 2, 1, 1, 1, 2, 2};
        for (int what = 0; what < counts.length; what++) {
            due.is("15 count " + what, x.count(what), counts[what]);
        }
        due.is("15 trace stays", x.count(7), 2);
        due.is("15 ring stays", x.count(8), 1);
        due.is("15 ring value stays", x.ring(0), 5);
        due.is("15 sheets stay", x.cell(0, 1, 9), 1);
        due.is("15 number", x.number(0, -1), 10 + 1 + 2 + 3);
        due.is("15 spent", x.valueTold(2, 2), 1);
        due.is("15 needs", x.needs(1, 0), 0);
        due.is("15 stacks", x.stack(1, true), 0);
        x.rule(0, 0, 0, 100, -1);
        due.is("15 the test is always", x.ruleTold(2, 6), 1);
        for (int i = 1; i < 20; i++) {
            due.done("15 back " + i, x, x.back(), 1);
        }
        due.refused("15 a 21st time", x, x.back(), 2);
        x.image();
        due.refused("15 after an image too", x, x.back(), 2);
    }

    private static void change(HeroSheet x) {
        x.value(0, 7, 0);
        x.rule(0, 5, 0, 0, 5 + 16);
        x.rule(0, 1, 0, 0, 16);
        x.free(0, false);
        x.free(5, true);
        x.make(1, false);
        x.make(6, true);
        x.stack(1, false);
        x.spell(0, 9, 1);
        x.turn();
        x.turn();
        x.rest();
        x.act(0, 0, 0);
        x.sheet(0, 0, 2);
        x.test(1, 7);
    }
}
