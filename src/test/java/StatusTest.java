/** Promise 38: each call that is no question leaves a status, and no question does. */
public final class StatusTest {
    private static final Due due = new Due();
    private static final int[] ALL = {1, 2, 3, 4, 10, 11, 12, 13, 14, 15};

    public static void main(String[] args) {
        due.is("38 at first", new HeroSheet().status(), 0);
        for (int status : ALL) {
            keptByQuestions(status);
        }
        changedByOthers();
        lowest();
        due.end();
    }

    /** A hero whose latest call was refused with this status. */
    private static HeroSheet refusedWith(int status) {
        HeroSheet x = status == 2 ? Heroes.tenSpells() : Heroes.rich();
        switch (status) {
            case 1: x.value(5, 0, 0); break;
            case 2: x.spell(0, 0, 1); break;
            case 3: x.make(0, true); break;
            case 4: x.rule(0, 0, 0, 0, 16); break;
            case 10: x.cell(3, 0, 0); break;
            case 11: x.row(0, 1, 0); break;
            case 12: x.cell(0, 6, 0); break;
            case 13: x.forge(1, -1, 0); break;
            case 14: x.forge(4, 0, 0); break;
            default: x.forge(5, 0, 0); break;
        }
        due.is("38 status " + status, x.status(), status);
        return x;
    }

    static final Twins.Call[] QUESTIONS = {
        x -> x.valueTold(0, 5), x -> x.valueTold(-1, 0), x -> x.valueTold(0, 6),
        x -> x.number(0, -1), x -> x.number(9, 0), x -> x.number(0, 256),
        x -> x.ruleTold(0, 7), x -> x.ruleTold(-1, 0), x -> x.ruleTold(0, 9),
        x -> x.amount(0), x -> x.amount(30), x -> x.ring(0), x -> x.ring(-1),
        x -> x.needs(0, 1), x -> x.needs(-1, 0), x -> x.choice(0, 2), x -> x.choice(8, 0), x -> x.choice(0, 3),
        x -> x.lawful(-1), x -> x.lawful(256), x -> x.mend(),
        x -> x.most(0, 0, 0, true), x -> x.most(-1, 0, 0, true), x -> x.most(0, 1, 1, true),
        x -> x.seek(0, 0, 0, true), x -> x.seek(0, 256, 0, true), x -> x.both(0, 1), x -> x.both(-1, 0),
        x -> x.way(1, 0), x -> x.way(256, 0), x -> x.dice(3, 0), x -> x.dice(0, 0), x -> x.dice(3, 4),
        x -> x.chance(3, 9, true, 0), x -> x.chance(3, 9, true, 2), x -> x.count(0), x -> x.count(9),
        x -> x.trace(0), x -> x.trace(-1), x -> x.status()};

    private static void keptByQuestions(int status) {
        HeroSheet x = refusedWith(status);
        for (int q = 0; q < QUESTIONS.length; q++) {
            QUESTIONS[q].on(x);
            due.is("38 status " + status + " after question " + q, x.status(), status);
        }
        if (status == 1) {
            for (int q = 0; q < QUESTIONS.length; q++) {
                due.is("question " + q + " changes something", Twins.whereDiffers(Heroes::rich, QUESTIONS[q]), -1);
            }
        }
    }

    private static void becomes(String name, int status, Twins.Call call) {
        HeroSheet x = refusedWith(status == 13 ? 15 : 13);
        call.on(x);
        due.is("38 after " + name, x.status(), status);
    }

    private static void changedByOthers() {
        becomes("value", 0, x -> x.value(0, 0, 0));
        becomes("free", 0, x -> x.free(7, true));
        becomes("free as it was", 0, x -> x.free(0, true));
        becomes("test", 0, x -> x.test(1, 0));
        becomes("test always", 0, x -> x.test(0, 0));
        becomes("testValue", 0, x -> x.testValue(0, true, 0));
        becomes("rule", 0, x -> x.rule(0, 0, 0, 0, -1));
        becomes("typed", 0, x -> x.typed(1, 0, 0, 0, -1));
        becomes("stack", 0, x -> x.stack(1, true));
        becomes("stack as it was", 0, x -> x.stack(2, true));
        becomes("make", 0, x -> x.make(7, true));
        becomes("spell", 0, x -> x.spell(0, 0, 1));
        becomes("turn", 0, x -> x.turn());
        becomes("spend", 0, x -> x.spend(2, 1));
        becomes("rest", 0, x -> x.rest());
        becomes("image", 0, x -> x.image());
        becomes("back", 0, x -> x.back());
        becomes("sheet", 0, x -> x.sheet(0, 0, 0));
        becomes("a missing sheet", 0, x -> x.sheet(3, -1, 0));
        becomes("cell", 0, x -> x.cell(0, 0, 0));
        becomes("row", 0, x -> x.row(0, 0, 0));
        becomes("act", 0, x -> x.act(0, 0, 0));
        becomes("an act that answers -1", 0, x -> x.act(0, 0, -1));
        becomes("forge 0", 0, x -> x.forge(0, 0, 0));
        becomes("forge 1", 0, x -> x.forge(1, 0, 0));
        becomes("forge 2", 0, x -> x.forge(2, 0, 1));
        becomes("forge 3", 0, x -> x.forge(3, 0, 0));
        becomes("forge 4", 0, x -> x.forge(4, 0, 12));
        becomes("forge 4 of one that fits", 0, x -> x.forge(4, 0, 8));
        becomes("forge 5", 0, x -> x.forge(5, 1, 0));
        becomes("forge 6", 0, x -> x.forge(6, 1, 0));
        becomes("a refused forge", 13, x -> x.forge(1, -1, 0));
    }

    private static void lowest() {
        HeroSheet x = Heroes.thirtyRules();
        due.refused("38 of 1, 2 and 4", x, x.rule(0, 3, 10, 0, 3 + 16), 1);
        due.refused("38 of 2 and 4", x, x.rule(0, 3, 0, 0, 3 + 16), 2);
        due.refused("38 of 1 and 3, too much and more than there is", x, x.spend(2, 1001), 1);
        due.refused("38 of 1 and 10", x, x.cell(3, 0, 1001), 1);
        due.refused("38 of 10 and 12", x, x.cell(3, 40, 1000), 10);
        due.refused("38 of 1 and 12", x, x.cell(0, 40, 1001), 1);
        due.refused("38 of 10 and 12, shorts", x, x.forge(2, -1, 3), 10);
        due.refused("38 of 11 and 12, shorts", x, x.forge(2, -1, 0), 11);
        due.refused("38 of 10 and 12, bytes", x, x.forge(3, -1, 3), 10);
        due.refused("38 of 11 and 12, bytes", x, x.forge(3, -1, 1), 11);
        due.refused("38 of 1 and 13", x, x.forge(1, -101, 0), 1);
        due.refused("38 of 1 and 15", x, x.forge(5, 0, 101), 1);
    }
}
