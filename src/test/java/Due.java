/** Collects the answers that are not as due; and a sheet to begin with. */
final class Due {
    private int wrong = 0;
    private int seen = 0;

    /** Values 0 .. 4, one of each kind: bases 10, 2, 5, 1 (2 dice of 6 sides), 0. */
    static HeroSheet five() {
        HeroSheet x = new HeroSheet();
        x.value(0, 10, 0);
        x.value(1, 2, 0);
        x.value(2, 5, 0);
        x.value(3, 1, 2 + 8 * 6);
        x.value(4, 0, 0);
        return x;
    }

    void is(String call, long got, long want) {
        seen++;
        if (got != want) {
            wrong++;
            System.out.println(call + ": answered " + got + ", due is " + want);
        }
    }

    /** A call that is refused: it answers -1 with this status. */
    void refused(String call, HeroSheet x, int got, int status) {
        is(call, got, -1);
        is(call + ", status", x.status(), status);
    }

    /** A call that is done, with this answer. */
    void done(String call, HeroSheet x, int got, int want) {
        is(call, got, want);
        is(call + ", status", x.status(), 0);
    }

    void end() {
        System.out.println(seen + " answers, " + wrong + " not as due");
        if (wrong > 0 || seen == 0) {
            System.exit(1);
        }
    }
}
