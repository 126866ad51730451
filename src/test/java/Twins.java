import java.util.ArrayList;
import java.util.List;

/**
 * Two heroes made alike, one of which gets one call more: does anything that calls can tell differ then?
 * Each probe asks a part, on new twins, so that no hero gets more than 512 calls.
 */
final class Twins {
    interface Maker {
        HeroSheet make();
    }

    interface Call {
        long on(HeroSheet x);
    }

    private interface Probe {
        void ask(HeroSheet x, List<Long> told);
    }

    private static final Probe[] PROBES = {
        Twins::askValues, Twins::askRules, Twins::askSheets, Twins::askBest, Twins::askNumbers, Twins::askTest,
        Twins::askTurns, Twins::askImage};

    private Twins() {
    }

    /** The call is refused with this status, answers -1, and nothing else differs after it. */
    static void refused(Due due, String name, Maker maker, Call call, int status) {
        HeroSheet x = maker.make();
        due.is(name, call.on(x), -1);
        due.is(name + ", status", x.status(), status);
        due.is(name + ", what changed", whereDiffers(maker, call), -1);
    }

    /** The call answers this, and nothing differs after it. */
    static void asked(Due due, String name, Maker maker, Call call, long answer) {
        due.is(name, call.on(maker.make()), answer);
        due.is(name + ", what changed", whereDiffers(maker, call), -1);
    }

    /** The number of the first probe that sees a difference, or, after them, of the first part that differs, or -1. */
    static int whereDiffers(Maker maker, Call call) {
        return firstDifference(maker, called(maker, call), PROBES.length, Part.values().length);
    }

    /** The same of two heroes that were made in two ways; whether they have images is not looked at. */
    static int whereDiffer(Maker left, Maker right) {
        return firstDifference(left, right, PROBES.length - 1, Part.IMAGE.ordinal());
    }

    private static int firstDifference(Maker left, Maker right, int probes, int parts) {
        for (int p = 0; p < probes; p++) {
            List<Long> leftTold = new ArrayList<>();
            List<Long> rightTold = new ArrayList<>();
            PROBES[p].ask(left.make(), leftTold);
            PROBES[p].ask(right.make(), rightTold);
            if (!leftTold.equals(rightTold)) {
                return p;
            }
        }
        for (int p = 0; p < parts; p++) {
            Part part = Part.values()[p];
            if (!part.told(left.make()).equals(part.told(right.make()))) {
                return PROBES.length + p;
            }
        }
        return -1;
    }

    private static Maker called(Maker maker, Call call) {
        return () -> {
            HeroSheet x = maker.make();
            call.on(x);
            return x;
        };
    }

    private static void askValues(HeroSheet x, List<Long> told) {
        for (int i = 0; i <= 10; i++) {
            told.add((long) x.count(i));
            told.add((long) x.ring(i));
            told.add((long) x.trace(i));
        }
        for (int v = 0; v < 10; v++) {
            for (int what = 0; what <= 5; what++) {
                told.add((long) x.valueTold(v, what));
            }
            for (int w = 0; w < 10; w++) {
                told.add((long) x.needs(v, w));
            }
            told.add(x.number(v, -1));
            told.add(x.number(v, 0));
            told.add(x.number(v, 255));
        }
        for (int c = 0; c < 8; c++) {
            for (int what = 0; what <= 2; what++) {
                told.add((long) x.choice(c, what));
            }
        }
        told.add((long) x.lawful(-1));
        told.add((long) x.mend());
    }

    private static void askRules(HeroSheet x, List<Long> told) {
        for (int r = 0; r < 30; r++) {
            for (int what = 0; what <= 8; what++) {
                told.add((long) x.ruleTold(r, what));
            }
            told.add(x.amount(r));
        }
    }

    private static void askSheets(HeroSheet x, List<Long> told) {
        for (int bits = 0; bits < 256; bits++) {
            told.add((long) x.lawful(bits));
        }
        for (int bits = 0; bits < 256; bits += 3) {
            told.add(x.number(1, bits));
        }
    }

    private static void askBest(HeroSheet x, List<Long> told) {
        for (int v = 0; v < 10; v++) {
            told.add(x.most(v, 0, 0, true));
            told.add(x.most(v, 0, 0, false));
            told.add((long) x.seek(v, 0, 0, true));
            told.add((long) x.seek(v, 0, 0, false));
            told.add((long) x.both(v, 1));
            told.add(x.dice(v, 0));
            told.add(x.dice(v, 2));
            told.add(x.chance(v, 12, true, 0));
        }
        for (int bits = 0; bits < 128; bits++) {
            told.add((long) x.way(bits, 0));
            told.add((long) x.way(bits, 1));
        }
    }

    // What no question tells: which types stack, and the sheets of numbers.
    private static void askNumbers(HeroSheet x, List<Long> told) {
        for (int type = 1; type <= 5; type++) {
            told.add((long) x.stack(type, false));
        }
        for (int sheet = 0; sheet < 4; sheet++) {
            for (int i = 0; i < 41; i += i < 9 ? 1 : 8) {
                told.add((long) x.forge(2, i, sheet));
                told.add((long) x.status());
            }
            for (int n = 0; n <= 3; n++) {
                told.add((long) x.forge(3, n, sheet));
                told.add((long) x.status());
            }
            for (int i = 0; i < 6; i++) {
                int rule = x.row(sheet, 2, i);
                told.add((long) rule);
                told.add((long) x.status());
                told.add((long) x.ruleTold(rule, 1));
                told.add((long) x.ruleTold(rule, 3));
                told.add(x.amount(rule));
                told.add((long) x.cell(sheet, i, 0));
            }
        }
    }

    // The test of rules that come shows in a rule that comes.
    private static void askTest(HeroSheet x, List<Long> told) {
        x.free(7, false);
        told.add((long) x.rule(5, 7, 0, 0, -1));
        told.add((long) x.rule(4, 0, 0, 0, -1));
        told.add((long) x.status());
        for (int bits = 0; bits < 128; bits++) {
            told.add((long) x.lawful(bits + 128));
            told.add(x.number(1, bits));
        }
    }

    private static void askImage(HeroSheet x, List<Long> told) {
        told.add((long) x.back());
        told.add((long) x.status());
        askValues(x, told);
        for (int r = 0; r < 14; r++) {
            told.add((long) x.ruleTold(r, 1));
            told.add((long) x.ruleTold(r, 7));
        }
        for (int i = 0; i < 20; i++) {
            told.add((long) x.back());
        }
        for (int type = 1; type <= 5; type++) {
            told.add((long) x.stack(type, false));
        }
        told.add((long) x.rule(5, 7, 0, 0, -1));
        told.add((long) x.choice(7, 2));
    }

    private static void askTurns(HeroSheet x, List<Long> told) {
        told.add((long) x.spend(2, 1));
        for (int i = 0; i < 21; i++) {
            told.add((long) x.turn());
            for (int v = 0; v < 10; v++) {
                told.add(x.number(v, -1));
            }
        }
        told.add((long) x.rest());
        told.add(x.number(2, -1));
        told.add(x.number(5, -1));
    }
}
