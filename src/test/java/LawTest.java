/** Section 3 of the terms and promises 22 to 28: open choices, lawful sheets, mend, the best ones, ways. */
public final class LawTest {
    private static final long NO = HeroSheet.NO;
    private static final Due due = new Due();
    private static final int MIN = Integer.MIN_VALUE;
    private static final int MAX = Integer.MAX_VALUE;
    private static final int[] NO_SETS = {-2, 256, 257, MIN, MAX};

    public static void main(String[] args) {
        openOrBarred();
        openWithoutItself();
        openByAValue();
        openInTime();
        lawfulSets();
        mendEdges();
        mostAndSeekEdges();
        mostOfLikes();
        bothEdges();
        bothInOrder();
        wayEdges();
        wayAround();
        due.end();
    }

    /** Values 0 and 1 with base 0; the first choices are free. */
    private static HeroSheet free(int choices) {
        HeroSheet x = new HeroSheet();
        x.value(1, 0, 0);
        x.value(1, 0, 0);
        for (int c = 0; c < choices; c++) {
            x.free(c, true);
        }
        return x;
    }

    private static void by(HeroSheet x, int kind, int choice, int test, int of) {
        x.test(test, of);
        x.rule(kind, choice, 0, 0, -1);
        x.test(0, 0);
    }

    private static void boon(HeroSheet x, int value, int choice, int amount) {
        x.test(1, choice);
        x.rule(0, value, 0, amount, -1);
        x.test(0, 0);
    }

    private static void openOrBarred() {
        for (int c = 0; c < 8; c++) {
            HeroSheet x = free(0);
            due.is("22 neither free nor opened " + c, x.choice(c, 2), 0);
            x.rule(5, c, 0, 0, -1);
            due.is("22 opened " + c, x.choice(c, 2), 1);
            due.is("22 not free " + c, x.choice(c, 1), 0);
            x.rule(6, c, 0, 0, -1);
            due.is("22 opened and barred " + c, x.choice(c, 2), 0);
            x.free(c, true);
            due.is("22 free and barred " + c, x.choice(c, 2), 0);
            x.rule(4, 1, 0, 0, -1);
            due.is("22 the bar is not there " + c, x.choice(c, 2), 1);
            x.rule(4, 0, 0, 0, -1);
            due.is("22 free is enough " + c, x.choice(c, 2), 1);
            x.free(c, false);
            due.is("22 nothing opens it " + c, x.choice(c, 2), 0);
            due.is("22 no other is open", x.count(6), 1);
        }
        HeroSheet x = free(1);
        by(x, 6, 0, 1, 7);
        due.is("22 a bar that does not hold", x.choice(0, 2), 1);
        x.make(7, true);
        due.is("22 a bar that holds", x.choice(0, 2), 0);
        by(x, 5, 0, 1, 7);
        due.is("22 what opens does not unbar", x.choice(0, 2), 0);
    }

    private static void openWithoutItself() {
        HeroSheet x = free(0);
        by(x, 5, 0, 2, 0);
        by(x, 5, 1, 1, 1);
        x.free(2, true);
        by(x, 6, 2, 1, 2);
        int[] open = {1, 0, 1};
        for (int c = 0; c < 3; c++) {
            due.is("22 open, not made " + c, x.choice(c, 2), open[c]);
            x.make(c, true);
            due.is("22 open, made " + c, x.choice(c, 2), open[c]);
            due.is("22 made " + c, x.choice(c, 0), 1);
            due.is("23 lawful " + c, x.lawful(1 << c), open[c]);
        }
        due.is("23 lawful if each is", x.lawful(5), 1);
        due.is("23 not lawful by one of them", x.lawful(7), 0);
    }

    // Choice 0 gives the very boon that would open it, or bar choice 1.
    private static void openByAValue() {
        HeroSheet x = free(0);
        boon(x, 0, 0, 3);
        x.free(1, true);
        x.testValue(0, false, 3);
        x.rule(5, 0, 0, 0, -1);
        x.rule(6, 1, 0, 0, -1);
        x.testValue(0, true, 3);
        x.rule(5, 2, 0, 0, -1);
        x.make(0, true);
        due.is("22 not open by its own boon", x.choice(0, 2), 0);
        due.is("22 barred by a boon", x.choice(1, 2), 0);
        due.is("22 not open at the limit", x.choice(2, 2), 0);
        due.is("23 with the boon", x.lawful(3), 0);
        due.is("23 without the boon", x.lawful(2), 1);
        due.is("23 below the limit", x.lawful(4), 1);
        x.spell(0, 2, 1);
        due.is("22 one short", x.choice(0, 2), 0);
        due.is("23 still below", x.lawful(6), 1);
        x.spell(0, 1, 1);
        due.is("22 opened by spells", x.choice(0, 2), 1);
        due.is("23 no more below", x.lawful(4), 0);
        due.is("23 barred by spells", x.lawful(2), 0);
    }

    private static void openInTime() {
        HeroSheet x = new HeroSheet();
        x.value(2, 5, 0);
        x.testValue(0, false, 5);
        x.rule(5, 0, 0, 0, -1);
        due.is("31 two lawful sheets", x.count(6), 2);
        x.spend(0, 1);
        due.is("31 one after spending", x.count(6), 1);
        x.rest();
        due.is("31 two after resting", x.count(6), 2);
        x.spell(0, -1, 1);
        due.is("31 one under a spell", x.count(6), 1);
        x.turn();
        due.is("31 two after it", x.count(6), 2);
        x.image();
        x.free(1, true);
        due.is("31 four with another", x.count(6), 4);
        x.back();
        due.is("31 two again", x.count(6), 2);
    }

    private static void lawfulSets() {
        HeroSheet x = free(8);
        for (int bits = 0; bits < 256; bits++) {
            due.is("23 all are free " + bits, x.lawful(bits), 1);
        }
        due.is("31 all lawful", x.count(6), 256);
        for (int bits : NO_SETS) {
            due.is("23 no set " + bits, x.lawful(bits), -1);
        }
        HeroSheet none = free(0);
        for (int bits = 0; bits < 256; bits++) {
            due.is("23 none is free " + bits, none.lawful(bits), bits == 0 ? 1 : 0);
        }
        due.is("31 the empty one alone", none.count(6), 1);
        due.is("23 those that are made, none", none.lawful(-1), 1);
        none.make(7, true);
        due.is("23 those that are made, one", none.lawful(-1), 0);
        due.is("31 whichever are made", none.count(6), 1);
    }

    private static void made(HeroSheet x, int bits) {
        for (int c = 0; c < 8; c++) {
            if ((bits >> c & 1) != 0) {
                x.make(c, true);
            }
        }
    }

    private static void mendEdges() {
        HeroSheet none = free(0);
        due.is("24 nothing is made", none.mend(), 0);
        made(none, 255);
        due.is("24 all are taken back", none.mend(), 0);
        HeroSheet all = free(8);
        made(all, 255);
        due.is("24 none is taken back", all.mend(), 255);
        HeroSheet some = free(8);
        made(some, 129);
        due.is("24 only those that are made", some.mend(), 129);
        HeroSheet two = free(8);
        by(two, 6, 0, 1, 7);
        made(two, 129);
        due.is("24 of 1 and 128 the greater", two.mend(), 128);
        HeroSheet three = free(8);
        by(three, 6, 0, 1, 7);
        by(three, 6, 1, 1, 7);
        made(three, 131);
        due.is("24 the fewest, though 3 is less than 128", three.mend(), 3);
        // 2 is opened by 1 alone and 1 by 0 alone: with 0 all would go.
        HeroSheet chain = free(1);
        by(chain, 5, 1, 1, 0);
        by(chain, 5, 2, 1, 1);
        made(chain, 6);
        due.is("24 one after the other goes", chain.mend(), 0);
        chain.make(0, true);
        due.is("24 all stay", chain.mend(), 7);
        chain.make(1, false);
        due.is("24 the last goes", chain.mend(), 1);
        // 3 and 4 open one another: lawful together, though neither is alone.
        HeroSheet pair = free(0);
        by(pair, 5, 3, 1, 4);
        by(pair, 5, 4, 1, 3);
        made(pair, 24);
        due.is("24 lawful together", pair.mend(), 24);
        pair.make(3, false);
        due.is("24 not alone", pair.mend(), 0);
    }

    private static void mostAndSeekEdges() {
        HeroSheet x = free(8);
        for (int c = 0; c < 8; c++) {
            boon(x, 0, c, c % 2 == 0 ? 1 : -1);
        }
        due.is("25 all that help", x.most(0, 0, 0, false), 4);
        due.is("26 all that help", x.seek(0, 0, 0, false), 0x55);
        due.is("25 all that harm", x.most(0, 0, 0, true), -4);
        due.is("26 all that harm", x.seek(0, 0, 0, true), 0xAA);
        due.is("25 must all", x.most(0, 255, 0, false), 0);
        due.is("26 must all", x.seek(0, 255, 0, true), 255);
        due.is("25 without all", x.most(0, 0, 255, false), 0);
        due.is("26 without all", x.seek(0, 0, 255, true), 0);
        due.is("25 must and without tell the sheet", x.most(0, 0x0F, 0xF0, false), 0);
        due.is("26 must and without tell the sheet", x.seek(0, 0x0E, 0xF1, false), 0x0E);
        due.is("25 must the last", x.most(0, 128, 0, false), 3);
        due.is("26 must the last", x.seek(0, 128, 0, false), 128 + 0x55);
        due.is("25 must and without the same", x.most(0, 128, 128, false), NO);
        due.is("26 must and without the same", x.seek(0, 128, 128, false), -1);
        due.is("25 must all, without all", x.most(0, 255, 255, true), NO);
        int[] noSets = {-1, -2, 256, 257, MIN, MAX};
        for (int bits : noSets) {
            due.is("25 must " + bits, x.most(0, bits, 0, false), NO);
            due.is("25 without " + bits, x.most(0, 0, bits, true), NO);
            due.is("26 must " + bits, x.seek(0, bits, 0, true), -1);
            due.is("26 without " + bits, x.seek(0, 0, bits, false), -1);
        }
        int[] noValues = {-1, 2, 10, MIN, MAX};
        for (int v : noValues) {
            due.is("25 value " + v, x.most(v, 0, 0, false), NO);
            due.is("26 value " + v, x.seek(v, 0, 0, false), -1);
        }
    }

    private static void mostOfLikes() {
        HeroSheet x = free(8);
        due.is("26 all alike, the most", x.seek(0, 0, 0, false), 0);
        due.is("26 all alike, the least", x.seek(0, 0, 0, true), 0);
        due.is("26 all alike, with 3", x.seek(0, 8, 0, false), 8);
        boon(x, 0, 6, 2);
        boon(x, 0, 2, 2);
        x.rule(3, 0, 0, 2, -1);
        due.is("25 capped", x.most(0, 0, 0, false), 2);
        due.is("26 the least set of several", x.seek(0, 0, 0, false), 4);
        due.is("26 without the least", x.seek(0, 0, 4, false), 64);
        due.is("26 with the greater", x.seek(0, 64, 0, false), 64);
        HeroSheet none = free(0);
        boon(none, 0, 0, 5);
        none.make(0, true);
        due.is("25 the sheet as it is is not lawful", none.most(0, 0, 0, false), 0);
        due.is("26 the empty one", none.seek(0, 0, 0, false), 0);
        due.is("25 none with 0", none.most(0, 1, 0, false), NO);
        due.is("26 none with 0", none.seek(0, 1, 0, false), -1);
    }

    private static void bothEdges() {
        HeroSheet x = free(8);
        due.is("27 one pair, on 256 sheets", x.both(0, 1), 1);
        for (int c = 0; c < 8; c++) {
            boon(x, 0, c, 1 << c);
            boon(x, 1, c, -(1 << c));
        }
        due.is("27 as many pairs as sheets", x.both(0, 1), 256);
        due.is("27 the other way", x.both(1, 0), 256);
        due.is("27 one value twice", x.both(0, 0), 1);
        due.is("27 the other value twice", x.both(1, 1), 1);
        for (int c = 0; c < 8; c++) {
            x.free(c, false);
            due.is("27 with " + (7 - c) + " free ones", x.both(0, 1), 1 << (7 - c));
        }
        HeroSheet y = free(2);
        boon(y, 0, 0, 1);
        due.is("27 greater in one, as great in the other", y.both(0, 1), 1);
        due.is("27 as great in one, greater in the other", y.both(1, 0), 1);
        boon(y, 1, 0, -1);
        due.is("27 greater in one, less in the other", y.both(0, 1), 2);
        boon(y, 0, 1, -1);
        due.is("27 less in one, as great in the other", y.both(0, 1), 2);
        boon(y, 1, 1, 1);
        due.is("27 the same pair by two sheets counts once", y.both(0, 1), 3);
        int[] noValues = {-1, 2, MIN, MAX};
        for (int v : noValues) {
            due.is("27 value " + v + " first", y.both(v, 0), -1);
            due.is("27 value " + v + " second", y.both(0, v), -1);
        }
    }

    /** Of the choices at most one is lawful at a time; each has a pair of numbers of its own, the empty sheet the first. */
    private static int bothOf(int[]... pairs) {
        HeroSheet x = new HeroSheet();
        x.value(1, pairs[0][0], 0);
        x.value(1, pairs[0][1], 0);
        for (int c = 0; c < pairs.length - 1; c++) {
            x.free(c, true);
            for (int v = 0; v < 2; v++) {
                x.test(1, c);
                x.rule(2, v, 0, pairs[c + 1][v], -1);
            }
            for (int d = 0; d < c; d++) {
                by(x, 6, c, 1, d);
            }
        }
        due.is("27 lawful sheets", x.count(6), pairs.length);
        int turned = x.both(1, 0);
        int straight = x.both(0, 1);
        return turned == straight ? straight : -2;
    }

    private static void bothInOrder() {
        due.is("27 each betters the one before", bothOf(new int[][] {{0, 0}, {1, 0}, {1, 1}, {2, 1}}), 1);
        due.is("27 each is bettered by the one before", bothOf(new int[][] {{2, 1}, {1, 1}, {1, 0}, {0, 0}}), 1);
        due.is("27 none betters another", bothOf(new int[][] {{0, 3}, {1, 2}, {2, 1}, {3, 0}}), 4);
        due.is("27 the first one goes", bothOf(new int[][] {{1, 0}, {0, 5}, {2, 0}, {1, 3}, {0, 4}}), 3);
        due.is("27 one that stays betters a later one", bothOf(new int[][] {{1, 0}, {0, 5}, {2, 0}, {-1, 4}}), 2);
        due.is("27 the last betters all", bothOf(new int[][] {{0, 2}, {1, 1}, {2, 0}, {2, 2}}), 1);
        due.is("27 the last betters some", bothOf(new int[][] {{0, 2}, {1, 1}, {2, 0}, {1, 2}}), 2);
        due.is("27 the same once more", bothOf(new int[][] {{0, 2}, {2, 0}, {0, 2}, {2, 0}}), 2);
    }

    private static void wayIs(HeroSheet x, int bits, int... steps) {
        for (int i = 0; i < steps.length; i++) {
            due.is("28 way to " + bits + ", step " + i, x.way(bits, i), steps[i]);
        }
        int[] none = {-1, steps.length, 7 + steps.length, MIN, MAX};
        for (int i : none) {
            due.is("28 way to " + bits + ", no step " + i, x.way(bits, i), -1);
        }
    }

    private static void wayEdges() {
        HeroSheet x = free(8);
        wayIs(x, 0);
        wayIs(x, 255, 0, 1, 2, 3, 4, 5, 6, 7);
        wayIs(x, 1, 0);
        wayIs(x, 128, 7);
        wayIs(x, 129, 0, 7);
        wayIs(x, -1);
        for (int bits : NO_SETS) {
            wayIs(x, bits);
        }
        HeroSheet none = free(0);
        wayIs(none, 0);
        wayIs(none, 1);
        wayIs(none, 255);
        // Each is opened by the next one, so the way goes down.
        HeroSheet down = free(0);
        down.free(7, true);
        for (int c = 0; c < 7; c++) {
            by(down, 5, c, 1, c + 1);
        }
        wayIs(down, 255, 7, 6, 5, 4, 3, 2, 1, 0);
        wayIs(down, 127);
        HeroSheet pair = free(0);
        by(pair, 5, 3, 1, 4);
        by(pair, 5, 4, 1, 3);
        due.is("28 lawful", pair.lawful(24), 1);
        wayIs(pair, 24);
    }

    // 0 is barred if just one of 1 and 2 is made: who begins with 0 gets no further.
    private static void wayAround() {
        HeroSheet x = free(4);
        boon(x, 0, 1, 1);
        boon(x, 0, 2, 1);
        x.rule(0, 1, 0, 0, 16 * 2);
        x.testValue(0, false, 2);
        x.rule(3, 1, 0, 0, -1);
        x.testValue(1, false, 1);
        x.rule(6, 0, 0, 0, -1);
        int[] lawful = {1, 1, 1, 0, 1, 0, 1, 1};
        for (int bits = 0; bits < 8; bits++) {
            due.is("23 lawful " + bits, x.lawful(bits), lawful[bits]);
        }
        wayIs(x, 7, 1, 2, 0);
        wayIs(x, 1, 0);
        wayIs(x, 3);
        wayIs(x, 6, 1, 2);
        wayIs(x, 9, 0, 3);
        wayIs(x, 15, 1, 2, 0, 3);
    }
}
