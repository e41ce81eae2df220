/** Promises 20 and 21, sentence by sentence. */
final class PlanSentences {
    private static final int NONE = Check.NONE, NO_SLEEP = 32, NOTHING_ALONE = 126;
    private final Sentences s;

    PlanSentences(Sentences s) {
        this.s = s;
    }

    void run() {
        quietCost();
        quietDish();
        quietNone();
        quietRefused();
        forceWhether();
        forceFirst();
        forceRefused();
    }

    /** Both are at 9; without sleep a fright in the first hour does, and then nothing. */
    private static HiccupPeace tense() {
        HiccupPeace x = States.byLevels(9, 9);
        x.set(2, NO_SLEEP);
        x.price(4, 7);
        x.price(0, 1);
        return x;
    }

    private void quietCost() {
        s.in("Promise 20");
        s.says("QUIET: the cost (i = NONE),");
        HiccupPeace x = tense();
        for (int g = 0; g < 2; g++) {
            s.due("one hour", x.quiet(g, 0, 0, NONE), 7);
            s.due("the last hour", x.quiet(g, 23, 23, NONE), 7);
            s.due("the whole day", x.quiet(g, 0, 23, NONE), 7 + 23);
            s.due("some hours", x.quiet(g, 5, 9, NONE), 7 + 4);
        }
        x.price(0, 0);
        x.price(4, 0);
        s.due("at no cost", x.quiet(0, 0, 23, NONE), 0);
    }

    private void quietDish() {
        s.says("the DISH of the i-th HOUR from one on;");
        HiccupPeace x = tense();
        for (int g = 0; g < 2; g++) {
            for (int i = 0; i < 24; i++) {
                s.due("the whole day, " + i, x.quiet(g, 0, 23, i), i == 0 ? 4 : 0);
            }
            s.due("the first of some hours", x.quiet(g, 5, 9, 0), 4);
            s.due("the last of some hours", x.quiet(g, 5, 9, 4), 0);
            s.due("hour 23", x.quiet(g, 23, 23, 0), 4);
        }
        HiccupPeace y = States.byHours(0, Check.hours(7));
        y.calm(0, 9);
        y.set(2, NO_SLEEP);
        y.wipe(0);
        y.price(3, 0);
        y.price(0, 1);
        y.price(2, 0);
        y.price(4, 2);
        int[] due = {2, 2, 3, 3};
        for (int i = 0; i < due.length; i++) {
            s.due("hour " + (4 + i), y.quiet(0, 4, 7, i), due[i]);
        }
        s.due("their cost", y.quiet(0, 4, 7, NONE), 0);
        // he may have champagne whenever the other one does not hiccup, and must be frightened when he does
        HiccupPeace z = States.byHours(0, 0xAAAAAA);
        z.price(0, 1);
        z.price(2, 0);
        z.price(4, 0);
        z.set(2, NO_SLEEP);
        for (int i = 0; i < 24; i++) {
            s.due("in turn from hour 0, " + i, z.quiet(0, 0, 23, i), i % 2 == 0 ? 2 : 4);
        }
        for (int i = 0; i < 21; i++) {
            s.due("in turn from hour 3, " + i, z.quiet(0, 3, 23, i), i % 2 == 0 ? 4 : 2);
        }
    }

    private void quietNone() {
        s.says("NONE.");
        HiccupPeace x = tense();
        x.set(2, NOTHING_ALONE);
        for (int g = 0; g < 2; g++) {
            s.due("no menu, its cost", x.quiet(g, 0, 0, NONE), NONE);
            s.due("no menu, its dish", x.quiet(g, 0, 0, 0), NONE);
            s.due("no menu, its last dish", x.quiet(g, 0, 23, 23), NONE);
        }
    }

    private void quietRefused() {
        s.says("BAD: GENERAL 2, up to a lesser HOUR, an i that there is not.");
        s.bad("quiet", 2, 0, 5, NONE);
        s.bad("quiet", 2, 0, 5, 0);
        s.badBeyond("quiet", 0, 0, 1, 0, 0, 23, 0);
        s.badBeyond("quiet", 1, 0, 23, 0, 0, 23, NONE);
        s.badBeyond("quiet", 2, 0, 23, 1, 0, 0, NONE);
        s.due("up to the same hour", tense().quiet(0, 5, 5, NONE), 7);
        s.bad("quiet", 0, 5, 4, NONE);
        s.bad("quiet", 1, 23, 0, NONE);
        s.bad("quiet", 0, 1, 0, 0);
        s.badBeyond("quiet", 3, NONE, 0, 0, 5, 5, 0);
        s.badBeyond("quiet", 3, NONE, 4, 1, 5, 9, 0);
        s.badBeyond("quiet", 3, NONE, 23, 0, 0, 23, 0);
        s.due("the last i that there is", tense().quiet(0, 0, 23, 23), 0);
        // where there is no menu, what is BAD is so still
        HiccupPeace x = tense();
        x.set(2, NOTHING_ALONE);
        s.due("BAD ahead of NONE", x.quiet(0, 5, 9, 5), Check.BAD);
    }

    /** Bread alone leads general 1 from 1 to 5 in four hours; general 0 stays at 9. */
    private static HiccupPeace byBread() {
        HiccupPeace x = States.byLevels(9, 1);
        x.set(2, NOTHING_ALONE - 2);
        return x;
    }

    private void forceWhether() {
        s.in("Promise 21");
        s.says("FORCE: whether (what = 0),");
        HiccupPeace x = byBread();
        for (int n = 1; n <= 12; n++) {
            s.due("from hour 0 in " + n, x.force(0, n, 0), n >= 4 ? 1 : 0);
            s.due("from hour 12 in " + n, x.force(12, n, 0), n >= 4 ? 1 : 0);
        }
        s.due("in hour 23", x.force(23, 1, 0), 0);
        x.calm(1, 4);
        s.due("in hour 23, from 4", x.force(23, 1, 0), 1);
    }

    private void forceFirst() {
        s.says("the first DISH (1; NONE).");
        HiccupPeace x = byBread();
        for (int n = 1; n <= 12; n++) {
            s.due("in " + n, x.force(0, n, 1), n < 4 ? NONE : n == 4 ? 1 : 0);
        }
        x.set(2, 0);
        s.due("where there is sleep one cannot", x.force(0, 12, 1), NONE);
    }

    private void forceRefused() {
        s.says("BAD: also beyond HOUR 23.");
        s.badBeyond("force", 0, 0, 23, 0, 1, 0);
        s.badBeyond("force", 1, 1, 12, 0, 1, 1);
        s.badBeyond("force", 2, 0, 1, 0, 1, 0);
        HiccupPeace x = byBread();
        for (int hour = 12; hour <= 23; hour++) {
            s.due("up to hour 23 from " + hour, x.force(hour, 24 - hour, 0), 24 - hour >= 4 ? 1 : 0);
            if (25 - hour <= 12) {
                s.bad("force", hour, 25 - hour, 0);
            }
        }
        s.bad("force", 24, 1, 0);
        s.bad("force", 23, 12, 1);
    }
}
