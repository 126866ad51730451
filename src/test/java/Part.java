import java.util.ArrayList;
import java.util.List;

/** The parts of what an object keeps, each told by calls that depend on no other part. Telling changes the object. */
enum Part {
    VALUES, SPENT, RULES, SPELLS, TURN, MADE, FREE, STACKING, TEST, RING, TRACE, SHEET_0, SHEET_1, SHEET_2, SHEET_3,
    IMAGE, BACKS;

    List<Long> told(HeroSheet x) {
        List<Long> told = new ArrayList<>();
        switch (this) {
            case VALUES -> values(x, told);
            case SPENT -> spent(x, told);
            case RULES -> rules(x, told);
            case SPELLS -> spells(x, told);
            case TURN -> add(told, x.count(4));
            case MADE -> choices(x, 0, told);
            case FREE -> choices(x, 1, told);
            case STACKING -> stacking(x, told);
            case TEST -> test(x, told);
            case RING -> ring(x, told);
            case TRACE -> trace(x, told);
            case IMAGE -> image(x, told);
            case BACKS -> backs(x, told);
            default -> sheet(x, ordinal() - SHEET_0.ordinal(), told);
        }
        return told;
    }

    private static void add(List<Long> told, long number) {
        told.add(number);
    }

    private static void values(HeroSheet x, List<Long> told) {
        add(told, x.count(0));
        int[] whats = {0, 1, 3, 4};
        for (int v = 0; v < 10; v++) {
            for (int what : whats) {
                add(told, x.valueTold(v, what));
            }
        }
    }

    private static void spent(HeroSheet x, List<Long> told) {
        for (int v = 0; v < 10; v++) {
            add(told, Math.max(0, x.valueTold(v, 2)));
        }
    }

    private static void rules(HeroSheet x, List<Long> told) {
        add(told, x.count(1));
        for (int r = 0; r < 30; r++) {
            for (int what = 0; what <= 4; what++) {
                add(told, x.ruleTold(r, what));
            }
        }
    }

    // In how many turns each one ends.
    private static void spells(HeroSheet x, List<Long> told) {
        add(told, x.count(2));
        for (int i = 0; i < 20; i++) {
            add(told, x.turn());
        }
    }

    private static void choices(HeroSheet x, int what, List<Long> told) {
        for (int c = 0; c < 8; c++) {
            add(told, x.choice(c, what));
        }
    }

    private static void stacking(HeroSheet x, List<Long> told) {
        for (int type = 1; type <= 5; type++) {
            add(told, x.stack(type, false));
        }
    }

    // Whether a rule that comes now holds: if no choice is made, and if one alone is.
    private static void test(HeroSheet x, List<Long> told) {
        int rule = x.rule(5, 7, 0, 0, -1);
        for (int c = 0; c < 8; c++) {
            if (x.choice(c, 0) == 1) {
                x.make(c, false);
            }
        }
        add(told, x.ruleTold(rule, 6));
        for (int c = 0; c < 8; c++) {
            x.make(c, true);
            add(told, x.ruleTold(rule, 6));
            x.make(c, false);
        }
    }

    private static void ring(HeroSheet x, List<Long> told) {
        add(told, x.count(8));
        for (int i = 0; i < 10; i++) {
            add(told, x.ring(i));
        }
    }

    private static void trace(HeroSheet x, List<Long> told) {
        add(told, x.count(7));
        for (int i = 0; i < 50; i++) {
            add(told, x.trace(i));
        }
    }

    // Shorts are read one by one, bytes by their sums, bytes and ints by the rules that they tell; then all places.
    private static void sheet(HeroSheet x, int sheet, List<Long> told) {
        for (int i = -1; i <= 40; i++) {
            add(told, x.forge(2, i, sheet));
            add(told, x.status());
        }
        for (int n = 0; n <= 3; n++) {
            add(told, x.forge(3, n, sheet));
            add(told, x.status());
        }
        for (int sort = 0; sort <= 2; sort += 2) {
            for (int i = 0; i < 6; i++) {
                int rule = x.row(sheet, sort, i);
                add(told, x.status());
                add(told, x.ruleTold(rule, 1));
                add(told, x.ruleTold(rule, 3));
                add(told, x.amount(rule));
            }
        }
        for (int i = -1; i <= 40; i++) {
            add(told, x.cell(sheet, i, 0));
        }
    }

    private static void image(HeroSheet x, List<Long> told) {
        add(told, x.back());
        add(told, x.status());
        values(x, told);
        spent(x, told);
        rules(x, told);
        add(told, x.count(4));
        choices(x, 0, told);
        choices(x, 1, told);
        stacking(x, told);
        spells(x, told);
    }

    private static void backs(HeroSheet x, List<Long> told) {
        int times = 0;
        while (times <= 20 && x.back() >= 0) {
            times++;
        }
        add(told, times);
        add(told, x.status());
    }
}
