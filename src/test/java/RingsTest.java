/** Needs and rings: promises 20 and 21, and what the terms say of them. */
public final class RingsTest {
    private static final Due due = new Due();
    private static final int MIN = Integer.MIN_VALUE;
    private static final int MAX = Integer.MAX_VALUE;

    public static void main(String[] args) {
        tenInARing();
        oneAlone();
        byEachKind();
        byTestAndAmount();
        whicheverHold();
        noneWithoutAim();
        theFewest();
        theLesser();
        theLesserFurtherOn();
        needsThroughOthers();
        needsAfterBack();
        due.end();
    }

    private static HeroSheet values(int many) {
        HeroSheet x = new HeroSheet();
        for (int v = 0; v < many; v++) {
            x.value(1, v, 0);
        }
        return x;
    }

    private static void needs(HeroSheet x, int w, int v) {
        due.done("a rule by which " + w + " needs " + v, x, x.rule(0, w, 0, 0, v + 16), x.count(1) - 1);
    }

    private static void ringIs(String name, HeroSheet x, int... values) {
        due.is(name + ", size", x.count(8), values.length);
        for (int i = 0; i < values.length; i++) {
            due.is(name + ", value " + i, x.ring(i), values[i]);
        }
        int[] none = {values.length, -1, 10, MIN, MAX};
        for (int i : none) {
            due.is(name + ", no value " + i, x.ring(i), -1);
        }
    }

    private static void tenInARing() {
        HeroSheet x = values(10);
        ringIs("20 none at first", x);
        for (int v = 0; v < 9; v++) {
            needs(x, v, v + 1);
        }
        ringIs("20 none yet", x);
        due.refused("20 the last needs the first", x, x.rule(0, 9, 0, 0, 16), 4);
        ringIs("20 all ten", x, 9, 0, 1, 2, 3, 4, 5, 6, 7, 8);
        due.refused("20 in the midst", x, x.rule(0, 5, 0, 0, 2 + 16), 4);
        ringIs("20 four", x, 5, 2, 3, 4);
        due.refused("20 from 1 on", x, x.rule(0, 9, 0, 0, 1 + 16), 4);
        ringIs("20 nine", x, 9, 1, 2, 3, 4, 5, 6, 7, 8);
        due.is("20 nine rules", x.count(1), 9);
        due.is("21 the last needs none", x.needs(9, 0), 0);
    }

    private static void oneAlone() {
        for (int v = 0; v < 10; v++) {
            HeroSheet x = values(10);
            due.refused("20 reads its aim " + v, x, x.rule(0, v, 0, 0, v + 16), 4);
            ringIs("20 alone " + v, x, v);
            x.testValue(v, true, 1000);
            due.refused("20 tests its aim " + v, x, x.rule(0, v, 0, 0, -1), 4);
            ringIs("20 tests alone " + v, x, v);
            due.is("21 it does not need itself", x.needs(v, v), 0);
        }
    }

    private static void byEachKind() {
        int[] kinds = {0, 2, 3, 7};
        for (int kind : kinds) {
            HeroSheet x = values(3);
            due.done("20 kind " + kind, x, x.rule(kind, 0, 0, 0, 1 + 16), 0);
            due.is("21 by kind " + kind, x.needs(0, 1), 1);
            due.refused("20 by kind " + kind, x, x.typed(1, 1, 0, 0, 16), 4);
            ringIs("20 by kind " + kind, x, 1, 0);
            due.done("20 typed", x, x.typed(1, 1, 0, 0, 2 + 16), 1);
            due.is("21 by typed", x.needs(1, 2), 1);
            due.refused("20 kind " + kind + " again", x, x.rule(kind, 2, 0, 0, 16), 4);
            ringIs("20 kind " + kind + " again", x, 2, 0, 1);
        }
    }

    private static void byTestAndAmount() {
        HeroSheet x = values(4);
        x.testValue(2, false, 0);
        due.done("21 reads two values", x, x.rule(0, 1, 0, 0, 3 + 16), 0);
        due.is("21 that of its amount", x.needs(1, 3), 1);
        due.is("21 that of its test", x.needs(1, 2), 1);
        x.testValue(0, true, 5);
        due.refused("20 the amount closes the ring", x, x.rule(0, 3, 0, 0, 1 + 16), 4);
        ringIs("20 by its amount", x, 3, 1);
        x.testValue(1, true, 5);
        due.refused("20 the test closes the ring", x, x.rule(0, 2, 0, 0, 16), 4);
        ringIs("20 by its test", x, 2, 1);
        due.is("21 nothing came of them", x.needs(3, 0) + x.needs(2, 0), 0);
    }

    // A rule that does not hold, or is not there, or is beaten, reads and writes all the same.
    private static void whicheverHold() {
        for (int how = 0; how <= 2; how++) {
            for (int made = 0; made <= 1; made++) {
                HeroSheet x = values(3);
                x.test(how, 4);
                x.rule(0, 0, 0, 0, 1 + 16);
                x.test(0, 0);
                x.rule(2, 1, 0, 0, 2 + 16);
                x.rule(2, 1, 9, 0, -1);
                x.rule(4, 1, 0, 0, -1);
                if (made == 1) {
                    x.make(4, true);
                }
                due.is("21 test " + how + ", made " + made, x.needs(0, 1), 1);
                due.is("21 by one that is not there", x.needs(1, 2), 1);
                due.is("21 through it", x.needs(0, 2), 1);
                x.test(2 - how, 4);
                due.refused("20 test " + how + ", made " + made, x, x.rule(0, 2, 0, 0, 16), 4);
                ringIs("20 test " + how + ", made " + made, x, 2, 0, 1);
            }
        }
    }

    private static void noneWithoutAim() {
        HeroSheet x = values(2);
        x.testValue(0, false, 0);
        due.done("20 opens are in no ring", x, x.rule(5, 0, 0, 0, 16), 0);
        due.done("20 bars are in no ring", x, x.rule(6, 1, 0, 0, 1 + 16), 1);
        due.is("21 what opens 0 writes no value", x.needs(0, 0) + x.needs(1, 0), 0);
        x.test(0, 0);
        due.done("20 insteads are in no ring", x, x.rule(4, 0, 0, 0, 16), 2);
        ringIs("20 none", x);
    }

    // 9 needs 0 through 1 .. 8, but also through 8 alone.
    private static void theFewest() {
        HeroSheet x = values(10);
        for (int v = 1; v < 10; v++) {
            needs(x, v, v - 1);
        }
        due.refused("20 a long ring", x, x.rule(0, 0, 0, 0, 9 + 16), 4);
        ringIs("20 a long ring", x, 0, 9, 8, 7, 6, 5, 4, 3, 2, 1);
        needs(x, 8, 0);
        due.refused("20 a short ring", x, x.rule(0, 0, 0, 0, 9 + 16), 4);
        ringIs("20 the fewest, though 7 is less than 8", x, 0, 9, 8);
        needs(x, 9, 0);
        due.refused("20 a shorter ring", x, x.rule(0, 0, 0, 0, 9 + 16), 4);
        ringIs("20 still fewer", x, 0, 9);
        x.testValue(1, false, 0);
        due.refused("20 as short, by its test", x, x.rule(0, 0, 0, 0, 9 + 16), 4);
        ringIs("20 the lesser of two as short", x, 0, 1);
    }

    // From 5 two ways of three values each lead back: by 8 and 0, by 3 and 9.
    private static void theLesser() {
        HeroSheet x = values(10);
        needs(x, 8, 0);
        needs(x, 0, 5);
        needs(x, 3, 9);
        needs(x, 9, 5);
        x.testValue(8, false, 0);
        due.refused("20 two ways", x, x.rule(0, 5, 0, 0, 3 + 16), 4);
        ringIs("20 the lesser at the first place", x, 5, 3, 9);
        x.testValue(3, false, 0);
        due.refused("20 two ways, told otherwise", x, x.rule(0, 5, 0, 0, 8 + 16), 4);
        ringIs("20 the same", x, 5, 3, 9);
    }

    private static void theLesserFurtherOn() {
        HeroSheet x = values(10);
        needs(x, 4, 9);
        needs(x, 4, 7);
        needs(x, 4, 8);
        needs(x, 9, 0);
        needs(x, 8, 1);
        needs(x, 7, 3);
        needs(x, 7, 2);
        int[] ends = {0, 1, 3, 2};
        for (int v : ends) {
            needs(x, v, 6);
        }
        due.refused("20 many ways", x, x.rule(0, 6, 0, 0, 4 + 16), 4);
        ringIs("20 the lesser at the first place where they differ", x, 6, 4, 7, 2);
    }

    private static void needsThroughOthers() {
        HeroSheet x = values(10);
        // The middle ones last, so that what is needed through others has to be found again.
        int[] order = {0, 8, 2, 6, 4, 1, 7, 3, 5};
        for (int v : order) {
            needs(x, v, v + 1);
        }
        for (int w = 0; w < 10; w++) {
            for (int v = 0; v < 10; v++) {
                due.is("21 " + w + " needs " + v, x.needs(w, v), w < v ? 1 : 0);
            }
        }
        HeroSheet y = values(10);
        for (int v : order) {
            needs(y, v + 1, v);
        }
        for (int w = 0; w < 10; w++) {
            for (int v = 0; v < 10; v++) {
                due.is("21 " + w + " needs the lesser " + v, y.needs(w, v), w > v ? 1 : 0);
            }
        }
        HeroSheet z = values(3);
        needs(z, 0, 2);
        needs(z, 1, 0);
        due.is("21 through the first value", z.needs(1, 2), 1);
        int[] none = {-1, 10, MIN, MAX};
        for (int v : none) {
            due.is("21 value " + v + " needs", x.needs(v, 0), -1);
            due.is("21 needs value " + v, x.needs(0, v), -1);
        }
        due.is("21 no values", new HeroSheet().needs(0, 0), -1);
    }

    private static void needsAfterBack() {
        HeroSheet x = values(3);
        needs(x, 0, 1);
        x.image();
        needs(x, 1, 2);
        x.value(0, 0, 0);
        needs(x, 2, 3);
        due.refused("20 before", x, x.rule(0, 3, 0, 0, 16), 4);
        x.back();
        due.is("21 what stays", x.needs(0, 1), 1);
        due.is("21 what is gone", x.needs(1, 2) + x.needs(0, 2), 0);
        due.is("21 the value is gone", x.needs(0, 3), -1);
        ringIs("20 the ring stays, though its values are gone", x, 3, 0, 1, 2);
        due.done("20 no ring any more", x, x.rule(0, 2, 0, 0, 1 + 16), 1);
        x.value(0, 0, 0);
        due.is("21 the new value needs none", x.needs(3, 0) + x.needs(2, 3), 0);
        HeroSheet chain = values(4);
        for (int v = 0; v < 3; v++) {
            needs(chain, v, v + 1);
        }
        chain.image();
        chain.back();
        due.is("21 through others after back", chain.needs(0, 3), 1);
        due.refused("20 after back", chain, chain.rule(0, 3, 0, 0, 16), 4);
        ringIs("20 all of them after back", chain, 3, 0, 1, 2);
    }
}
