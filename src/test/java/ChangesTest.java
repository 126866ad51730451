import java.util.EnumMap;
import java.util.List;
import java.util.Map;

/** Each call: which parts of the object it changes, and how much of them; all others stay. Questions change none. */
public final class ChangesTest {
    private static final Due due = new Due();
    /** Stands for: some, however many. */
    private static final int SOME = -1;

    public static void main(String[] args) {
        asItWasMade();
        values();
        choices();
        rules();
        turns();
        images();
        backUndoes();
        host();
        questions();
        due.end();
    }

    // What the others are held against; the test came after the sheets of numbers, which have stayed.
    private static void asItWasMade() {
        HeroSheet x = Heroes.rich();
        int[] shorts = {1, 3, 3, 31, 0};
        for (int i = 0; i < shorts.length; i++) {
            due.done("4 short " + i, x, x.forge(2, i, 1), shorts[i]);
        }
        int[] sums = {0, 2, 5, 35};
        for (int n = 0; n < sums.length; n++) {
            due.done("4 bytes up to " + n, x, x.forge(3, n, 0), sums[n]);
        }
        int rule = x.row(2, 2, 0);
        due.is("4 ints: aim", x.ruleTold(rule, 1), 1);
        due.is("4 ints: amount", x.amount(rule), 4);
        due.is("4 ints: source", x.ruleTold(rule, 3), 3);
        due.is("4 ring", x.ring(0) * 10 + x.ring(1), 1);
        due.is("4 trace", x.count(7), 10);
        due.is("4 image", x.back(), 1);
    }

    /** What differs after the call, told by pairs: a part, and how many of its numbers. */
    private static void changes(String name, Twins.Call call, Object... partsAndNumbers) {
        Map<Part, Integer> changed = new EnumMap<>(Part.class);
        for (int i = 0; i < partsAndNumbers.length; i += 2) {
            changed.put((Part) partsAndNumbers[i], (Integer) partsAndNumbers[i + 1]);
        }
        for (Part part : Part.values()) {
            HeroSheet after = Heroes.rich();
            call.on(after);
            int differing = differing(part.told(Heroes.rich()), part.told(after));
            int wanted = changed.getOrDefault(part, 0);
            String told = name + ": numbers of " + part + " that differ";
            due.is(told, wanted == SOME ? Math.min(differing, 1) : differing, Math.abs(wanted));
        }
    }

    /** The same, of a call that is neither image() nor back(): if there was no image, there is none after it either. */
    private static void changesNoImage(String name, Twins.Call call, Object... partsAndNumbers) {
        changes(name, call, partsAndNumbers);
        HeroSheet x = Heroes.richWithoutImage();
        call.on(x);
        due.refused(name + ": no image comes by it", x, x.back(), 3);
    }

    private static int differing(List<Long> before, List<Long> after) {
        due.is("numbers that are told", after.size(), before.size());
        int differing = 0;
        for (int i = 0; i < before.size(); i++) {
            differing += before.get(i).equals(after.get(i)) ? 0 : 1;
        }
        return differing;
    }

    private static void values() {
        changesNoImage("2 value", x -> x.value(0, 7, 0), Part.VALUES, 5);
        changesNoImage("2 a pool", x -> x.value(2, 7, 0), Part.VALUES, 5);
        changesNoImage("2 dice", x -> x.value(3, -7, 5 + 8 * 12), Part.VALUES, 5);
        changesNoImage("12 spend", x -> x.spend(2, 1), Part.SPENT, 1);
        changesNoImage("12 spend of the other pool", x -> x.spend(5, 7), Part.SPENT, 1);
        changesNoImage("12 spend too much", x -> x.spend(5, 8));
        changesNoImage("13 rest", x -> x.rest(), Part.SPENT, 2);
        changesNoImage("8 stack", x -> x.stack(1, true), Part.STACKING, 1);
        changesNoImage("8 stack no more", x -> x.stack(4, false), Part.STACKING, 1);
        changesNoImage("8 stack as it was", x -> x.stack(2, true));
    }

    private static void choices() {
        changesNoImage("3 free", x -> x.free(7, true), Part.FREE, 1);
        changesNoImage("3 free no more", x -> x.free(6, false), Part.FREE, 1);
        changesNoImage("3 free as it was", x -> x.free(0, true));
        changesNoImage("3 not free as it was", x -> x.free(7, false));
        changesNoImage("9 make", x -> x.make(7, true), Part.MADE, 1);
        changesNoImage("9 make no more", x -> x.make(0, false), Part.MADE, 1);
        changesNoImage("9 make one that is made", x -> x.make(0, true));
    }

    private static void rules() {
        changesNoImage("4 a choice is made", x -> x.test(1, 4), Part.TEST, 9);
        changesNoImage("4 another one is not made", x -> x.test(2, 3), Part.TEST, 2);
        changesNoImage("4 the same test", x -> x.test(2, 4));
        changesNoImage("4 always", x -> x.test(0, 0), Part.TEST, 1);
        changesNoImage("5 a value", x -> x.testValue(0, false, 1000), Part.TEST, 8);
        changesNoImage("5 a value below", x -> x.testValue(0, true, 1000), Part.TEST, 1);
        int[] kinds = {0, 2, 3, 4, 5, 6, 7};
        for (int kind : kinds) {
            changesNoImage("6 rule of kind " + kind, x -> x.rule(kind, 3, 4 + 16 * 5, 6, -1), Part.RULES, 6);
        }
        changesNoImage("6 a rule by a value", x -> x.rule(0, 3, 4, 6, 1 + 16 * 9), Part.RULES, 6);
        changesNoImage("7 typed", x -> x.typed(1, 3, 4 + 16 * 5, 6, -1), Part.RULES, 6);
        changesNoImage("6 a ring", x -> x.rule(0, 3, 0, 0, 3 + 16), Part.RING, 3);
        changesNoImage("7 a ring", x -> x.typed(1, 4, 0, 0, 4 + 16), Part.RING, 3);
        changesNoImage("36 row of ints", x -> x.row(2, 2, 0), Part.RULES, 6);
        changesNoImage("36 row of bytes", x -> x.row(0, 0, 2), Part.RULES, 6);
        changesNoImage("36 row that tells none", x -> x.row(0, 0, 3));
    }

    private static void turns() {
        changesNoImage("10 spell", x -> x.spell(6, 1, 1), Part.SPELLS, 2);
        changesNoImage("10 a spell of 0", x -> x.spell(0, 0, 20), Part.SPELLS, 2);
        // Two spells end a turn sooner each.
        changesNoImage("11 turn", x -> x.turn(), Part.TURN, 1, Part.SPELLS, 4);
    }

    // Since the image: a choice made, one free, a type stacks, some spent, a turn (two spells are nearer), a rule.
    private static void images() {
        changes("14 image", x -> x.image(), Part.IMAGE, 1 + 1 + 1 + 1 + 1 + 4 + 6 + 1);
        changes("15 back", x -> x.back(), Part.MADE, 1, Part.FREE, 1, Part.STACKING, 1, Part.SPENT, 1, Part.TURN, 1,
            Part.SPELLS, 4, Part.RULES, 6, Part.TEST, 1, Part.BACKS, 1);
        HeroSheet x = Heroes.richWithoutImage();
        due.done("14 image", x, x.image(), 1);
        due.done("15 back to it", x, x.back(), 2);
    }

    /** Value 6 needs 1, which needs 0; spells with numbers unlike the turns in which they end. */
    private static HeroSheet chained() {
        HeroSheet x = Heroes.beforeImage();
        x.rule(0, 6, 0, 1, 1 + 16 * 2);
        x.spell(1, 13, 4);
        x.spell(2, -1, 6);
        return x;
    }

    // The twin of the one that goes back never had an image, and nothing came to it.
    private static void backUndoes() {
        Twins.Maker back = () -> {
            HeroSheet x = chained();
            x.image();
            changeAll(x);
            x.back();
            return x;
        };
        due.is("15 all that came is undone", Twins.whereDiffer(ChangesTest::chained, back), -1);
        due.is("15 and no more of it shows", Twins.whereDiffer(() -> more(chained()), () -> more(back.make())), -1);
        HeroSheet x = back.make();
        due.is("15 a spell's number", x.number(3, -1), 1 + 6);
        due.refused("15 a ring through what was needed then", x, x.rule(0, 0, 0, 0, 6 + 16), 4);
        due.is("15 all its values", x.count(8), 3);
        due.is("15 the last one", x.ring(2), 1);
    }

    private static void changeAll(HeroSheet x) {
        x.value(2, 50, 0);
        x.value(3, -50, 1 + 8 * 2);
        x.rule(0, 0, 0, 0, 7 + 16);
        x.typed(5, 1, 0, 9, 8 + 16);
        x.rule(4, 0, 0, 0, -1);
        x.rule(6, 1, 0, 0, -1);
        x.spell(7, 17, 20);
        x.spell(0, 11, 3);
        x.spend(7, 40);
        x.rest();
        x.spend(5, 1);
        for (int c = 0; c < 8; c++) {
            x.make(c, x.choice(c, 0) == 0);
            x.free(c, x.choice(c, 1) == 0);
        }
        for (int type = 1; type <= 5; type++) {
            x.stack(type, type != 2);
        }
        x.turn();
        x.turn();
        x.turn();
        x.test(1, 3);
    }

    private static HeroSheet more(HeroSheet x) {
        x.value(4, 0, 0);
        x.value(3, 2, 3 + 8 * 4);
        x.spell(7, 1, 2);
        x.spell(8, -5, 7);
        x.rule(0, 7, 0, -1, 6 + 16);
        x.turn();
        return x;
    }

    private static void host() {
        changesNoImage("32 act", x -> x.act(0, 0, 0), Part.TRACE, 11);
        changesNoImage("32 the same act", x -> x.act(9, 3, 4));
        changesNoImage("32 the same act with another number", x -> x.act(9, 3, -5));
        changesNoImage("34 a sheet that was missing", x -> x.sheet(3, 1, 2), Part.SHEET_3, SOME);
        changesNoImage("34 a sheet in place of one", x -> x.sheet(0, 2, 6), Part.SHEET_0, SOME);
        changesNoImage("34 a sheet of the same sort", x -> x.sheet(1, 1, 5), Part.SHEET_1, SOME);
        changesNoImage("34 a sheet is missing", x -> x.sheet(2, -1, 0), Part.SHEET_2, SOME);
        changesNoImage("35 a byte", x -> x.cell(0, 3, 9), Part.SHEET_0, SOME);
        changesNoImage("35 a short", x -> x.cell(1, 4, 9), Part.SHEET_1, 1);
        changesNoImage("35 an int", x -> x.cell(2, 1, 9), Part.SHEET_2, 1);
        for (int what = 0; what <= 6; what++) {
            int w = what;
            for (int n = -1; n <= 3; n++) {
                int number = n;
                for (int k = 0; k <= 3; k++) {
                    int of = k;
                    changesNoImage("37 forge " + w + " " + n + " " + k, x -> x.forge(w, number, of));
                }
            }
        }
    }

    private static void questions() {
        for (int q = 0; q < StatusTest.QUESTIONS.length; q++) {
            changesNoImage("question " + q, StatusTest.QUESTIONS[q]);
        }
    }
}
