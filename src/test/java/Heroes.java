/** Heroes to begin with: one that has something of everything, and ones that have no more room. */
final class Heroes {
    private Heroes() {
    }

    /** Seven values, twelve rules of all kinds, spells, a ring, a trace, an image that differs, three sheets of numbers. */
    static HeroSheet rich() {
        HeroSheet x = beforeImage();
        x.image();
        x.back();
        x.back();
        x.back();
        changeAfterImage(x);
        addSheets(x);
        x.test(2, 4);
        return x;
    }

    /** As rich(), but no image was ever kept. */
    static HeroSheet richWithoutImage() {
        HeroSheet x = beforeImage();
        changeAfterImage(x);
        addSheets(x);
        x.test(2, 4);
        return x;
    }

    /** As rich(), but without what came after its image. */
    static HeroSheet beforeImage() {
        HeroSheet x = Due.five();
        x.value(2, 9, 0);
        x.value(1, -4, 0);
        x.free(0, true);
        x.free(1, true);
        x.free(3, true);
        x.stack(2, true);
        addRules(x);
        x.spell(0, 4, 1);
        x.spell(0, -2, 5);
        x.spell(3, 6, 20);
        x.turn();
        x.spend(2, 3);
        x.make(0, true);
        x.make(5, true);
        x.rule(0, 0, 0, 0, 1 + 16);
        x.act(9, 3, 4);
        return x;
    }

    private static void addRules(HeroSheet x) {
        x.rule(0, 1, 0, 3, 16 * 3);
        x.typed(1, 1, 1 + 16 * 2, 4, -1);
        x.typed(2, 1, 0, 5, -1);
        x.test(1, 0);
        x.rule(2, 6, 4, 7, -1);
        x.rule(2, 6, 4, 8, -1);
        x.test(0, 0);
        x.rule(3, 1, 0, 40, -1);
        x.rule(7, 2, 0, 9, -1);
        x.test(2, 7);
        x.rule(4, 2, 0, 0, -1);
        x.testValue(1, false, 20);
        x.rule(5, 2, 3, 0, -1);
        x.test(1, 2);
        x.rule(6, 3, 5 + 16 * 3, 0, -1);
        x.test(1, 1);
        x.rule(0, 1, 16 * 2, 6, -1);
        x.test(0, 0);
    }

    private static void changeAfterImage(HeroSheet x) {
        x.make(1, true);
        x.stack(4, true);
        x.free(6, true);
        x.spend(5, 2);
        x.turn();
        x.typed(3, 0, 0, 2, -1);
    }

    private static void addSheets(HeroSheet x) {
        x.sheet(0, 0, 6);
        x.sheet(1, 1, 5);
        x.sheet(2, 2, 4);
        for (int sheet = 0; sheet < 3; sheet++) {
            x.cell(sheet, 0, 1);
            x.cell(sheet, 1, 2 + sheet);
            x.cell(sheet, 2, 3);
            x.cell(sheet, 3, 30 + sheet);
        }
    }

    /** As rich(), but the rules that come hold by a value, which choice 6 makes 1. */
    static HeroSheet richByValue() {
        HeroSheet x = rich();
        x.test(1, 6);
        x.rule(0, 4, 0, 1, -1);
        x.testValue(4, false, 1);
        return x;
    }

    static HeroSheet tenValues() {
        return tenValues(rich());
    }

    static HeroSheet tenValues(HeroSheet x) {
        for (int v = 7; v < 10; v++) {
            x.value(1, v, 0);
        }
        return x;
    }

    static HeroSheet thirtyRules() {
        return thirtyRules(rich());
    }

    static HeroSheet thirtyRules(HeroSheet x) {
        for (int r = 12; r < 30; r++) {
            x.rule(0, r % 7, 0, r, -1);
        }
        return x;
    }

    static HeroSheet tenSpells() {
        return tenSpells(rich());
    }

    static HeroSheet tenSpells(HeroSheet x) {
        for (int k = 3; k < 10; k++) {
            x.spell(1, k, k);
        }
        return x;
    }

    static HeroSheet backTwentyTimes() {
        HeroSheet x = rich();
        for (int i = 3; i < 20; i++) {
            x.back();
        }
        x.make(7, true);
        x.test(1, 3);
        return x;
    }
}
