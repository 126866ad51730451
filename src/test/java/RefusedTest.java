/**
 * Every call that can be refused, for every reason: what it answers, the status that it leaves, and that nothing
 * else has changed. Ranges are tried at the last number within and the first one outside, on both sides.
 */
public final class RefusedTest {
    private static final Due due = new Due();
    private static final int MIN = Integer.MIN_VALUE;
    private static final int MAX = Integer.MAX_VALUE;

    public static void main(String[] args) {
        changesAreSeen();
        values();
        choices();
        tests();
        rules();
        rulesOfKinds();
        typedRules();
        noRoomForRules();
        rings();
        spells();
        pools();
        images();
        acts();
        sheets();
        cells();
        rows();
        rowsInOrder();
        forgeNumbers();
        forgeRefusals();
        due.end();
    }

    private static void refused(String name, int status, Twins.Call call) {
        Twins.refused(due, name, Heroes::rich, call, status);
        bringsNoImage(name, Heroes.richWithoutImage(), call);
    }

    private static void bringsNoImage(String name, HeroSheet x, Twins.Call call) {
        due.is(name + ", without an image", call.on(x), -1);
        due.refused(name + ", still without an image", x, x.back(), 3);
    }

    private static void done(String name, Twins.Call call, long answer) {
        HeroSheet x = Heroes.rich();
        due.is(name, call.on(x), answer);
        due.is(name + ", status", x.status(), 0);
    }

    private static void seen(String name, Twins.Call change) {
        due.is("the twins see " + name, Twins.whereDiffers(Heroes::rich, change) >= 0 ? 1 : 0, 1);
    }

    // Without this the twins could say "nothing changed" because they look at nothing.
    private static void changesAreSeen() {
        seen("a value", x -> x.value(0, 0, 0));
        seen("free", x -> x.free(7, true));
        seen("free no more", x -> x.free(6, false));
        seen("a test", x -> x.test(1, 4));
        seen("a test of always", x -> x.test(0, 0));
        seen("a test of a value", x -> x.testValue(0, false, 0));
        seen("a rule", x -> x.rule(0, 0, 0, 1, -1));
        seen("a typed rule", x -> x.typed(1, 0, 0, 1, -1));
        seen("a ring", x -> x.rule(0, 3, 0, 0, 3 + 16));
        seen("stack", x -> x.stack(1, true));
        seen("stack no more", x -> x.stack(4, false));
        seen("make", x -> x.make(7, true));
        seen("a spell", x -> x.spell(6, 1, 1));
        seen("a turn", x -> x.turn());
        seen("spend", x -> x.spend(2, 1));
        seen("rest", x -> x.rest());
        seen("an image", x -> x.image());
        seen("back", x -> x.back());
        seen("an act", x -> x.act(0, 0, 0));
        seen("a sheet of shorts", x -> x.sheet(3, 1, 1));
        seen("a sheet of no bytes", x -> x.sheet(3, 0, 0));
        seen("a missing sheet", x -> x.sheet(2, -1, 0));
        seen("a cell of bytes", x -> x.cell(0, 3, 9));
        seen("a cell of shorts", x -> x.cell(1, 4, 9));
        seen("a cell of ints", x -> x.cell(2, 3, 9));
        seen("a row", x -> x.row(2, 2, 0));
        due.is("the twins see nothing where nothing is", Twins.whereDiffers(Heroes::rich, x -> x.count(0)), -1);
        due.is("of full rules neither", Twins.whereDiffers(Heroes::thirtyRules, x -> x.mend()), -1);
    }

    private static void values() {
        refused("2 kind -1", 1, x -> x.value(-1, 0, 1 + 16));
        refused("2 kind 5", 1, x -> x.value(5, 0, 1 + 16));
        refused("2 kind least", 1, x -> x.value(MIN, 0, 1 + 16));
        refused("2 kind greatest", 1, x -> x.value(MAX, 0, 1 + 16));
        for (int k = 0; k <= 4; k++) {
            int kind = k;
            done("2 kind " + kind + ", base -99", x -> x.value(kind, -99, 1 + 16), 7);
            done("2 kind " + kind + ", base 99", x -> x.value(kind, 99, 1 + 16), 7);
            refused("2 kind " + kind + ", base -100", 1, x -> x.value(kind, -100, 1 + 16));
            refused("2 kind " + kind + ", base 100", 1, x -> x.value(kind, 100, 1 + 16));
        }
        for (int c = 0; c <= 7; c++) {
            int count = c;
            for (int s = 0; s <= 15; s++) {
                int sides = s;
                boolean are = count >= 1 && count <= 5 && sides >= 2 && sides <= 12;
                String name = "2 " + count + " dice of " + sides;
                if (are) {
                    done(name, x -> x.value(3, 0, count + 8 * sides), 7);
                } else {
                    HeroSheet x = new HeroSheet();
                    due.refused(name, x, x.value(3, 0, count + 8 * sides), 1);
                    due.is(name + " did not come", x.count(0), 0);
                }
            }
        }
        refused("2 no dice", 1, x -> x.value(3, 0, 8 * 6));
        refused("2 six dice", 1, x -> x.value(3, 0, 6 + 8 * 6));
        refused("2 one side", 1, x -> x.value(3, 0, 1 + 8));
        refused("2 thirteen sides", 1, x -> x.value(3, 0, 1 + 8 * 13));
        refused("2 dice below 0", 1, x -> x.value(3, 0, 2 - 8 * 6));
        refused("2 dice least", 1, x -> x.value(3, 0, MIN + 2 + 8 * 6));
        refused("2 dice greatest", 1, x -> x.value(3, 0, MAX));
        Twins.refused(due, "2 an eleventh", Heroes::tenValues, x -> x.value(0, 0, 0), 2);
        Twins.refused(due, "2 no room, wrong kind", Heroes::tenValues, x -> x.value(5, 0, 0), 1);
        Twins.refused(due, "2 no room, wrong base", Heroes::tenValues, x -> x.value(0, 100, 0), 1);
        Twins.refused(due, "2 no room, wrong dice", Heroes::tenValues, x -> x.value(3, 0, 0), 1);
        bringsNoImage("2 an eleventh", Heroes.tenValues(Heroes.richWithoutImage()), x -> x.value(0, 0, 0));
    }

    private static void choices() {
        int[] none = {-1, 8, MIN, MAX};
        for (int choice : none) {
            refused("3 choice " + choice, 1, x -> x.free(choice, true));
            refused("3 choice " + choice + " no more", 1, x -> x.free(choice, false));
            refused("9 choice " + choice, 1, x -> x.make(choice, true));
            refused("9 choice " + choice + " no more", 1, x -> x.make(choice, false));
        }
        refused("9 choice 0 is made", 3, x -> x.make(0, true));
        refused("9 choice 5 is made", 3, x -> x.make(5, true));
        refused("9 choice 2 is not made", 3, x -> x.make(2, false));
        refused("9 choice 7 is not made", 3, x -> x.make(7, false));
        int[] noTypes = {0, 6, -1, MIN, MAX};
        for (int type : noTypes) {
            refused("8 type " + type, 1, x -> x.stack(type, true));
            refused("8 type " + type + " no more", 1, x -> x.stack(type, false));
        }
    }

    private static void refusedTest(String name, Twins.Call call) {
        refused(name, 1, call);
        Twins.refused(due, name + " after a value's", Heroes::richByValue, call, 1);
    }

    private static void tests() {
        int[] noHow = {-1, 3, 4, MIN, MAX};
        for (int how : noHow) {
            refusedTest("4 how " + how, x -> x.test(how, 0));
        }
        int[] noChoice = {-1, 8, MIN, MAX};
        for (int choice : noChoice) {
            refusedTest("4 made " + choice, x -> x.test(1, choice));
            refusedTest("4 not made " + choice, x -> x.test(2, choice));
        }
        int[] noValue = {-1, 7, MIN, MAX};
        for (int value : noValue) {
            refusedTest("5 value " + value, x -> x.testValue(value, false, 0));
            refusedTest("5 value " + value + " below", x -> x.testValue(value, true, 0));
        }
        int[] outside = {-1001, 1001, MIN, MAX};
        for (int n : outside) {
            refusedTest("5 at least " + n, x -> x.testValue(0, false, n));
            refusedTest("5 below " + n, x -> x.testValue(0, true, n));
        }
    }

    private static void rules() {
        int[] noKinds = {-1, 1, 8, MIN, MAX};
        for (int kind : noKinds) {
            refused("6 kind " + kind, 1, x -> x.rule(kind, 0, 0, 0, -1));
        }
        int[] allKinds = {0, 2, 3, 4, 5, 6, 7};
        int[] noMore = {10, 15, 16 * 21, 10 + 16 * 20, 9 + 16 * 21, -1, -16, MIN, MAX};
        for (int kind : allKinds) {
            for (int more : noMore) {
                refused("6 kind " + kind + ", more " + more, 1, x -> x.rule(kind, 0, more, 0, -1));
            }
            done("6 kind " + kind + ", no rank, no source", x -> x.rule(kind, 0, 0, 0, -1), 12);
            done("6 kind " + kind + ", rank 9, source 20", x -> x.rule(kind, 0, 9 + 16 * 20, 0, -1), 12);
        }
    }

    private static void rulesOfKinds() {
        int[] writing = {0, 2, 3, 7};
        for (int kind : writing) {
            rulesOfValues("6 kind " + kind, (x, aim, amount, by) -> x.rule(kind, aim, 0, amount, by));
        }
        int[] noRule = {-1, 12, 13, 29, 30, MIN, MAX};
        for (int aim : noRule) {
            refused("6 instead of " + aim, 1, x -> x.rule(4, aim, 0, 0, -1));
        }
        done("6 instead of the first", x -> x.rule(4, 0, 0, 0, -1), 12);
        done("6 instead of the last", x -> x.rule(4, 11, 0, 0, -1), 12);
        Twins.refused(due, "6 instead by a value", Heroes::richByValue, x -> x.rule(4, 0, 0, 0, -1), 1);
        int[] noChoice = {-1, 8, MIN, MAX};
        for (int aim : noChoice) {
            refused("6 opens " + aim, 1, x -> x.rule(5, aim, 0, 0, -1));
            refused("6 bars " + aim, 1, x -> x.rule(6, aim, 0, 0, -1));
        }
        done("6 opens the last", x -> x.rule(5, 7, 0, 0, -1), 12);
        done("6 bars the last", x -> x.rule(6, 7, 0, 0, -1), 12);
        int[] noMatter = {MIN, -1001, 1001, MAX};
        for (int n : noMatter) {
            done("6 instead, amount and by " + n, x -> x.rule(4, 0, 0, n, n), 12);
            done("6 opens, amount and by " + n, x -> x.rule(5, 0, 0, n, n), 12);
            done("6 bars, amount and by " + n, x -> x.rule(6, 0, 0, n, n), 12);
        }
    }

    private interface RuleOfValue {
        long on(HeroSheet x, int aim, int amount, int by);
    }

    private static void rulesOfValues(String name, RuleOfValue rule) {
        int[] noValue = {-1, 7, 10, MIN, MAX};
        for (int aim : noValue) {
            refused(name + ", aim " + aim, 1, x -> rule.on(x, aim, 0, -1));
        }
        done(name + ", first aim", x -> rule.on(x, 0, 0, -1), 12);
        done(name + ", last aim", x -> rule.on(x, 6, 0, -1), 12);
        int[] noAmount = {-1001, 1001, MIN, MAX};
        for (int amount : noAmount) {
            refused(name + ", amount " + amount, 1, x -> rule.on(x, 0, amount, -1));
        }
        done(name + ", amount -1000", x -> rule.on(x, 0, -1000, -1), 12);
        done(name + ", amount 1000", x -> rule.on(x, 0, 1000, -1), 12);
        int[] noBy = {-2, -16, 6, 6 + 16 * 10, 7 + 16, 9 + 16, 10 + 16, 15 + 16 * 9, 6 - 16, MIN, MIN + 6 + 16, MAX};
        for (int by : noBy) {
            refused(name + ", by " + by, 1, x -> rule.on(x, 0, 0, by));
        }
        done(name + ", factor 1", x -> rule.on(x, 0, 0, 6 + 16), 12);
        done(name + ", factor 9", x -> rule.on(x, 0, 0, 6 + 16 * 9), 12);
        done(name + ", by the first", x -> rule.on(x, 6, 0, 16), 12);
    }

    private static void typedRules() {
        rulesOfValues("7 typed", (x, aim, amount, by) -> x.typed(5, aim, 0, amount, by));
        int[] noTypes = {0, 6, -1, MIN, MAX};
        for (int type : noTypes) {
            refused("7 type " + type, 1, x -> x.typed(type, 0, 0, 0, -1));
            refused("7 type " + type + ", a ring too", 1, x -> x.typed(type, 0, 0, 0, 16));
        }
        int[] noMore = {10, 15, 16 * 21, 9 + 16 * 21, -1, MIN, MAX};
        for (int more : noMore) {
            refused("7 more " + more, 1, x -> x.typed(1, 0, more, 0, -1));
        }
        for (int t = 1; t <= 5; t++) {
            int type = t;
            done("7 type " + type, x -> x.typed(type, 0, 9 + 16 * 20, 0, -1), 12);
        }
    }

    private static void full(String name, int status, Twins.Call call) {
        Twins.refused(due, name, Heroes::thirtyRules, call, status);
        bringsNoImage(name, Heroes.thirtyRules(Heroes.richWithoutImage()), call);
    }

    private static void noRoomForRules() {
        int[] allKinds = {0, 2, 3, 4, 5, 6, 7};
        for (int kind : allKinds) {
            full("6 a 31st of kind " + kind, 2, x -> x.rule(kind, 0, 0, 0, -1));
            full("6 no room, wrong rank, kind " + kind, 1, x -> x.rule(kind, 0, 10, 0, -1));
            full("6 no room, wrong aim, kind " + kind, 1, x -> x.rule(kind, 30, 0, 0, -1));
        }
        full("6 no room, wrong kind", 1, x -> x.rule(1, 0, 0, 0, -1));
        full("6 no room, a ring", 2, x -> x.rule(0, 3, 0, 0, 3 + 16));
        full("7 a 31st", 2, x -> x.typed(1, 0, 0, 0, -1));
        full("7 no room, wrong type", 1, x -> x.typed(6, 0, 0, 0, -1));
        full("7 no room, a ring", 2, x -> x.typed(1, 3, 0, 0, 3 + 16));
        full("36 a 31st", 2, x -> x.row(0, 0, 0));
        full("36 no room, wrong sort", 1, x -> x.row(0, 3, 0));
        full("36 no room, wrong sheet", 1, x -> x.row(4, 0, 0));
        full("36 no room, missing", 2, x -> x.row(3, 0, 0));
        full("36 no room, another sort", 2, x -> x.row(0, 1, 0));
        full("36 no room, place outside", 2, x -> x.row(0, 0, 9));
        full("36 no room, they tell none", 2, x -> x.row(0, 0, 3));
    }

    // A ring that is refused changes the ring that is told; so these heroes have been refused the same one before.
    private static void ring(String name, Twins.Call call) {
        Twins.Maker again = () -> {
            HeroSheet x = Heroes.rich();
            call.on(x);
            return x;
        };
        Twins.refused(due, name, again, call, 4);
    }

    private static void rings() {
        int[] writing = {0, 2, 3, 7};
        for (int kind : writing) {
            ring("6 kind " + kind + " reads its aim", x -> x.rule(kind, 3, 0, 0, 3 + 16));
            ring("6 kind " + kind + " through another", x -> x.rule(kind, 0, 0, 0, 1 + 16));
        }
        ring("7 reads its aim", x -> x.typed(1, 3, 0, 0, 3 + 16));
        ring("7 through another", x -> x.typed(1, 0, 0, 0, 1 + 16));
    }

    private static void spells() {
        int[] noValue = {-1, 7, MIN, MAX};
        for (int value : noValue) {
            refused("10 value " + value, 1, x -> x.spell(value, 0, 1));
        }
        int[] noNumber = {-21, 21, MIN, MAX};
        for (int number : noNumber) {
            refused("10 number " + number, 1, x -> x.spell(0, number, 1));
        }
        int[] noTurns = {0, -1, 21, MIN, MAX};
        for (int n : noTurns) {
            refused("10 turns " + n, 1, x -> x.spell(0, 0, n));
        }
        done("10 the first value, least number, one turn", x -> x.spell(0, -20, 1), 4);
        done("10 the last value, greatest number, twenty turns", x -> x.spell(6, 20, 20), 4);
        Twins.refused(due, "10 an eleventh", Heroes::tenSpells, x -> x.spell(0, 0, 1), 2);
        Twins.refused(due, "10 no room, wrong value", Heroes::tenSpells, x -> x.spell(7, 0, 1), 1);
        Twins.refused(due, "10 no room, wrong number", Heroes::tenSpells, x -> x.spell(0, 21, 1), 1);
        Twins.refused(due, "10 no room, wrong turns", Heroes::tenSpells, x -> x.spell(0, 0, 21), 1);
        bringsNoImage("10 an eleventh", Heroes.tenSpells(Heroes.richWithoutImage()), x -> x.spell(0, 0, 1));
    }

    // Of value 2, 6 are left (at least 9, of which 3 are spent); of value 5, 7.
    private static void pools() {
        int[] noPool = {-1, 0, 1, 3, 4, 6, 7, MIN, MAX};
        for (int value : noPool) {
            refused("12 value " + value, 1, x -> x.spend(value, 1));
        }
        int[] outside = {0, -1, 1001, MIN, MAX};
        for (int n : outside) {
            refused("12 spend " + n, 1, x -> x.spend(2, n));
        }
        done("12 spend 1", x -> x.spend(2, 1), 5);
        done("12 spend all", x -> x.spend(2, 6), 0);
        refused("12 spend one more than all", 3, x -> x.spend(2, 7));
        refused("12 spend 1000", 3, x -> x.spend(2, 1000));
        done("12 spend all of another", x -> x.spend(5, 7), 0);
        refused("12 spend one more than all of another", 3, x -> x.spend(5, 8));
    }

    private static void images() {
        Twins.refused(due, "15 a 21st time", Heroes::backTwentyTimes, x -> x.back(), 2);
        Twins.refused(due, "15 there is none", Heroes::richWithoutImage, x -> x.back(), 3);
        Twins.refused(due, "15 nor on a new object", HeroSheet::new, x -> x.back(), 3);
    }

    private static void acts() {
        int[] noRule = {-1, 12, 29, 30, MIN, MAX};
        for (int rule : noRule) {
            refused("32 rule " + rule, 1, x -> x.act(rule, 0, 0));
        }
        int[] noAct = {-1, 4, MIN, MAX};
        for (int act : noAct) {
            refused("32 act " + act, 1, x -> x.act(0, act, 0));
        }
        Twins.refused(due, "32 no rules", HeroSheet::new, x -> x.act(0, 0, 0), 1);
    }

    private static void sheets() {
        int[] noSheet = {-1, 4, MIN, MAX};
        for (int sheet : noSheet) {
            refused("34 sheet " + sheet, 1, x -> x.sheet(sheet, 0, 0));
            refused("34 sheet " + sheet + " missing", 1, x -> x.sheet(sheet, -1, 0));
        }
        int[] noSort = {-2, 3, MIN, MAX};
        for (int sort : noSort) {
            refused("34 sort " + sort, 1, x -> x.sheet(0, sort, 6));
        }
        int[] noSize = {-1, 41, MIN, MAX};
        for (int n : noSize) {
            for (int s = 0; s <= 2; s++) {
                int sort = s;
                refused("34 sort " + sort + ", size " + n, 1, x -> x.sheet(sort, sort, n));
            }
            done("34 missing, size " + n, x -> x.sheet(0, -1, n), 1);
        }
    }

    private static void cells() {
        int[] noSheet = {-1, 4, MIN, MAX};
        for (int sheet : noSheet) {
            refused("35 sheet " + sheet, 1, x -> x.cell(sheet, 0, 0));
        }
        int[] outside = {-1001, 1001, MIN, MAX};
        for (int v : outside) {
            refused("35 number " + v, 1, x -> x.cell(2, 0, v));
            refused("35 number " + v + ", missing", 1, x -> x.cell(3, 0, v));
            refused("35 number " + v + ", place outside", 1, x -> x.cell(2, 4, v));
        }
        refused("35 missing", 10, x -> x.cell(3, 0, 5));
        refused("35 missing, place outside", 10, x -> x.cell(3, -1, 5));
        int[] sizes = {6, 5, 4};
        for (int s = 0; s <= 2; s++) {
            int sheet = s;
            int[] noPlace = {-1, sizes[s], 39, 40, MIN, MAX};
            for (int i : noPlace) {
                refused("35 sheet " + sheet + ", place " + i, 12, x -> x.cell(sheet, i, 5));
            }
            done("35 sheet " + sheet + ", the first place", x -> x.cell(sheet, 0, -1000), 1);
            done("35 sheet " + sheet + ", the last place", x -> x.cell(sheet, sizes[sheet] - 1, 1000), 1);
        }
    }

    private static void rows() {
        int[] noSheet = {-1, 4, MIN, MAX};
        for (int sheet : noSheet) {
            refused("36 sheet " + sheet, 1, x -> x.row(sheet, 0, 0));
        }
        int[] noSort = {-1, 3, MIN, MAX};
        for (int sort : noSort) {
            refused("36 sort " + sort, 1, x -> x.row(0, sort, 0));
            refused("36 sort " + sort + ", missing", 1, x -> x.row(3, sort, 0));
        }
        int[] sizes = {6, 5, 4};
        for (int s = 0; s <= 2; s++) {
            int sheet = s;
            done("36 sheet " + sheet, x -> x.row(sheet, sheet, 0), 12);
            refused("36 sheet " + sheet + " for the next sort", 11, x -> x.row(sheet, (sheet + 1) % 3, 0));
            refused("36 sheet " + sheet + " for the other sort", 11, x -> x.row(sheet, (sheet + 2) % 3, 0));
            refused("36 missing for sort " + sheet, 10, x -> x.row(3, sheet, 0));
            int[] noPlace = {-1, -2, -3, sizes[s] - 2, sizes[s] - 1, sizes[s], MIN, MAX, MAX - 1, MAX - 2};
            for (int i : noPlace) {
                refused("36 sheet " + sheet + ", place " + i, 12, x -> x.row(sheet, sheet, i));
            }
            refused("36 sheet " + sheet + ", they tell none", 3, x -> x.row(sheet, sheet, 1));
        }
    }

    private static void rowsInOrder() {
        refused("36 missing before place", 10, x -> x.row(3, 0, -1));
        refused("36 another sort before place", 11, x -> x.row(2, 0, -1));
        refused("36 another sort before what tells none", 11, x -> x.row(2, 0, 1));
        refused("36 place before what tells none", 12, x -> x.row(0, 0, 4));
        Twins.Maker ringed = () -> {
            HeroSheet x = Heroes.rich();
            x.testValue(1, false, 0);
            x.row(2, 2, 0);
            x.cell(2, 2, 21);
            return x;
        };
        Twins.refused(due, "36 what tells none before a ring", ringed, x -> x.row(2, 2, 0), 3);
        Twins.Maker clear = () -> {
            HeroSheet x = ringed.make();
            x.cell(2, 2, 20);
            return x;
        };
        Twins.refused(due, "36 a ring", clear, x -> x.row(2, 2, 0), 4);
        Twins.refused(due, "36 another sort before a ring", clear, x -> x.row(2, 1, 0), 11);
    }

    private static void forgeNumbers() {
        int[] noWhat = {-1, 7, MIN, MAX};
        for (int what : noWhat) {
            refused("37 what " + what, 1, x -> x.forge(what, 1, 0));
        }
        int[] outside = {-101, 101, MIN, MAX};
        for (int n : outside) {
            for (int w = 0; w <= 6; w++) {
                int what = w;
                refused("37 what " + what + ", n " + n, 1, x -> x.forge(what, n, 0));
                refused("37 what " + what + ", k " + n, 1, x -> x.forge(what, 1, n));
            }
        }
    }

    private static void forgeRefusals() {
        refused("37 no such rule", 10, x -> x.forge(0, 0, 12));
        refused("37 no such rule, 29", 10, x -> x.forge(0, 0, -1));
        refused("37 another kind", 11, x -> x.forge(0, 1, 0));
        refused("37 a size below 0", 13, x -> x.forge(1, -1, 0));
        refused("37 the least size", 13, x -> x.forge(1, -100, 0));
        refused("37 no shorts", 10, x -> x.forge(2, 0, 3));
        refused("37 bytes for shorts", 11, x -> x.forge(2, 0, 0));
        refused("37 ints for shorts", 11, x -> x.forge(2, 0, 2));
        refused("37 shorts, place -1", 12, x -> x.forge(2, -1, 1));
        refused("37 shorts, place 5", 12, x -> x.forge(2, 5, 1));
        refused("37 no bytes", 10, x -> x.forge(3, 0, 3));
        refused("37 shorts for bytes", 11, x -> x.forge(3, 0, 1));
        refused("37 ints for bytes", 11, x -> x.forge(3, 0, 2));
        refused("37 n below 0", 12, x -> x.forge(3, -1, 0));
        refused("37 outside of the row of 6", 12, x -> x.forge(3, 4, 0));
        refused("37 a misfit", 14, x -> x.forge(4, 0, 0));
        refused("37 divided by 0", 15, x -> x.forge(5, 0, 0));
        refused("37 none is there to be thrown", 10, x -> x.forge(6, 0, 0));
        Twins.asked(due, "37 a kind", Heroes::rich, x -> x.forge(0, 0, 9), 6);
        Twins.asked(due, "37 a row", Heroes::rich, x -> x.forge(1, 40, 9), 40);
        Twins.asked(due, "37 a short", Heroes::rich, x -> x.forge(2, 3, 1), 31);
        Twins.asked(due, "37 a copy", Heroes::rich, x -> x.forge(3, 3, 0), 2 + 3 + 30);
        Twins.asked(due, "37 one that fits", Heroes::rich, x -> x.forge(4, 0, 9), 6);
        Twins.asked(due, "37 none fits too", Heroes::rich, x -> x.forge(4, 0, 12), 0);
        Twins.asked(due, "37 divided", Heroes::rich, x -> x.forge(5, 3, 0), 333);
        Twins.asked(due, "37 one that is caught", Heroes::rich, x -> x.forge(6, 1, 0), 1);
    }
}
