/** The third part of the terms: prices, what is forbidden, the cheapest menu, and the war that can be forced. */
final class TermsThreeSentences {
    private static final int NONE = Check.NONE;
    private static final int NOTHING_ALONE = 126, NO_SLEEP = 32;
    private final Sentences s;

    TermsThreeSentences(Sentences s) {
        this.s = s;
    }

    void run() {
        s.in("Terms");
        prices();
        forbidden();
        quietOfWhat();
        quietByLaw();
        quietCheapest();
        quietLeast();
        quietAnswers();
        forceOfWhat();
        forceWhether();
        forceFirst();
        forceAhead();
    }

    private void prices() {
        s.says("PRICE of a DISH (0 to 99; 0, 2, 9, 3, 1, 0, 5 at first).");
        int[] first = {0, 2, 9, 3, 1, 0, 5};
        for (int dish = 0; dish < 7; dish++) {
            HiccupPeace x = new HiccupPeace();
            s.due("at first " + dish, x.price(dish, 0), first[dish]);
            s.due("the least " + dish, x.price(dish, 99), 0);
            s.due("the greatest " + dish, x.price(dish, first[dish]), 99);
            s.badBeyond("price", 1, 0, 99, dish, 1);
        }
    }

    private void forbidden() {
        s.says("FORBIDDEN DISHES (bits; none at first; never DISH 0) nobody serves in what follows.");
        HiccupPeace x = new HiccupPeace();
        s.due("none at first", x.set(2, 126), 0);
        s.due("all but one", x.set(2, 0), 126);
        for (int odd = 1; odd <= 127; odd += 2) {
            s.due("dish 0 by " + odd, x.set(2, odd), Check.BAD);
        }
        s.badBeyond("set", 1, 0, 126, 2, 0);
        for (int dish = 1; dish < 7; dish++) {
            // only this dish would do: the others leave him where he is
            HiccupPeace y = States.byLevels(9, 9);
            for (int other = 0; other < 7; other++) {
                y.does(other, other == dish ? -9 : 0);
            }
            y.set(2, NO_SLEEP & ~(1 << dish));
            s.due("served " + dish, y.quiet(0, 0, 0, 0), dish);
            s.due("peace serves it " + dish, y.force(0, 1, 0), 0);
            y.set(2, NO_SLEEP | 1 << dish);
            s.due("not served " + dish, y.quiet(0, 0, 0, 0), NONE);
            s.due("peace does not serve it " + dish, y.force(0, 1, 0), 1);
        }
        HiccupPeace z = States.byLevels(9, 0);
        z.set(2, NOTHING_ALONE - 4);
        s.due("war serves it", z.force(0, 2, 0), 1);
        z.set(2, NOTHING_ALONE);
        s.due("war does not serve it", z.force(0, 12, 0), 0);
    }

    private void quietOfWhat() {
        s.says("QUIET: of all MENUS of GENERAL 0 or 1 for HOURS from one to another one (all else as told),");
        for (int g = 0; g < 2; g++) {
            HiccupPeace x = new HiccupPeace();
            x.set(2, NO_SLEEP);
            Check.type(x, g, "ccccc");
            x.calm(1 - g, 9);
            s.due("ahead of it as told: from 9 by a fright", x.quiet(g, 3, 3, 0), 4);
            s.due("its cost", x.quiet(g, 3, 3, NONE), 1);
            s.due("from calm on nothing is enough", x.quiet(g, 0, 0, NONE), 0);
            s.due("what is told for these hours is not served", x.quiet(g, 0, 23, NONE), 0);
            x.calm(g, 5);
            s.due("calm as told", x.quiet(g, 0, 0, NONE), 1);
            Check.type(x, 1 - g, "fnn");
            s.due("the other one as told", x.quiet(g, 0, 2, NONE), 0);
            s.due("he too is served anew in all hours", x.quiet(g, 0, 23, NONE), 0);
        }
        HiccupPeace y = States.byHours(Check.hours(0), Check.hours(4));
        y.set(2, NOTHING_ALONE);
        y.calm(0, 9);
        s.due("behind the last hour it counts no more", y.quiet(0, 0, 3, NONE), 0);
        s.due("in the last hour it does", y.quiet(0, 0, 4, NONE), NONE);
        y.calm(0, 0);
        s.due("from hour 1 on he comes from 9", y.quiet(0, 1, 4, NONE), NONE);
        s.due("from hour 5 on all is well", y.quiet(0, 5, 23, NONE), 0);
        s.bad("quiet", 2, 0, 0, NONE);
    }

    private void quietByLaw() {
        s.says("by which in none of these HOURS both HICCUP (by LAW 1: either):");
        for (int way = 0; way < 4; way++) {
            boolean one = (way & 1) == 1;
            boolean other = way > 1;
            HiccupPeace x = States.byLevels(one ? 5 : 4, other ? 5 : 4);
            x.set(2, NOTHING_ALONE);
            for (int g = 0; g < 2; g++) {
                x.set(1, 0);
                s.due("law 0, way " + way, x.quiet(g, 7, 9, NONE), one && other ? NONE : 0);
                x.set(1, 1);
                s.due("law 1, way " + way, x.quiet(g, 7, 9, NONE), one || other ? NONE : 0);
                x.set(1, 2);
                s.due("law 2, way " + way, x.quiet(g, 7, 9, NONE), one && other ? NONE : 0);
            }
        }
        HiccupPeace y = States.byHours(Check.hours(1), Check.hours(2));
        y.set(1, 1);
        s.due("law 1: the other one does, and no menu helps", y.quiet(0, 2, 2, NONE), NONE);
        s.due("law 1: ahead of it he does, which is no more to be helped", y.quiet(0, 3, 23, NONE), 0);
        s.due("law 1: he is served otherwise", y.quiet(0, 0, 1, NONE), 0);
        y.set(1, 2);
        y.set(2, NOTHING_ALONE);
        s.due("law 2: hours one behind the other are not both in one", y.quiet(1, 1, 1, NONE), 0);
    }

    private void quietCheapest() {
        s.says("the cheapest,");
        HiccupPeace x = States.byLevels(9, 9);
        x.set(2, NO_SLEEP);
        x.price(4, 99);
        s.due("there is but a fright", x.quiet(0, 0, 3, NONE), 99);
        x.does(3, -5);
        s.due("vinegar is cheaper", x.quiet(0, 0, 3, NONE), 3);
        x.does(3, -4);
        Check.type(x, 1, "f" + "c".repeat(23));
        x.does(2, 9);
        s.due("vinegar, while there is time for two", x.quiet(0, 0, 3, NONE), 6);
        x.price(0, 1);
        x.price(3, 0);
        x.price(2, 0);
        s.due("nothing costs too", x.quiet(0, 0, 3, NONE), 0);
        for (int dish = 0; dish < 7; dish++) {
            x.price(dish, 99);
        }
        s.due("the dearest day", x.quiet(0, 0, 23, NONE), 24 * 99);
        s.due("the dearest hour", x.quiet(0, 23, 23, NONE), 99);
    }

    private void dishesDue(String what, HiccupPeace x, int from, int... dishes) {
        for (int i = 0; i < dishes.length; i++) {
            s.due(what + ", dish " + i, x.quiet(0, from, from + dishes.length - 1, i), dishes[i]);
        }
    }

    private void quietLeast() {
        s.says("of like ones the row with the least DISHES, HOUR by HOUR:");
        HiccupPeace x = States.byHours(0, Check.hours(1));
        x.calm(0, 5);
        for (int dish = 1; dish < 7; dish++) {
            x.price(dish, 1);
        }
        dishesDue("nothing comes first, then the least that helps", x, 0, 0, 3);
        x.price(0, 1);
        dishesDue("all cost the same", x, 0, 0, 3);
        x.set(2, 8);
        dishesDue("without vinegar", x, 0, 0, 4);
        x.set(2, 8 + 16 + 32);
        dishesDue("herbs at last", x, 0, 0, 6);
        HiccupPeace y = States.byLevels(3, 9);
        for (int dish = 0; dish < 7; dish++) {
            y.price(dish, dish == 0 ? 2 : 1);
        }
        dishesDue("bread once, for twice would be too much", y, 0, 1, 3);
        dishesDue("the earlier hour's dish is the lesser one", y, 0, 1, 3, 1);
    }

    private void quietAnswers() {
        s.says("what it costs; the DISH of the i-th HOUR of these; NONE.");
        HiccupPeace x = States.byLevels(9, 9);
        x.set(2, NO_SLEEP);
        s.due("what it costs", x.quiet(0, 4, 6, NONE), 1);
        s.due("the first of these", x.quiet(0, 4, 6, 0), 4);
        s.due("the second", x.quiet(0, 4, 6, 1), 0);
        s.due("the last", x.quiet(0, 4, 6, 2), 0);
        x.set(2, NOTHING_ALONE);
        for (int i = NONE; i < 3; i++) {
            s.due("none", x.quiet(0, 4, 6, i), NONE);
        }
    }

    private void forceOfWhat() {
        s.says("FORCE: from an HOUR on, for n (1 to 12) HOURS, who wants war serves GENERAL 1, "
                + "then who wants peace serves GENERAL 0, knowing that, any DISH, HOUR by HOUR:");
        HiccupPeace x = States.byLevels(9, 0);
        x.set(2, NOTHING_ALONE - 2);
        for (int n = 1; n <= 12; n++) {
            s.due("by bread in " + n + " hours to 5", x.force(0, n, 0), n >= 5 ? 1 : 0);
        }
        s.due("up to the last hour", x.force(12, 12, 0), 1);
        s.due("just enough up to the last hour", x.force(19, 5, 0), 1);
        s.due("too late", x.force(20, 4, 0), 0);
        HiccupPeace y = States.byLevels(0, 9);
        y.set(2, NOTHING_ALONE - 2);
        s.due("who wants peace gives general 0 nothing", y.force(0, 12, 0), 0);
        HiccupPeace z = States.byLevels(9, 9);
        s.due("any dish: sleep keeps the peace", z.force(0, 12, 0), 0);
        z.set(2, NO_SLEEP);
        s.due("a fright too", z.force(0, 12, 0), 0);
        s.badBeyond("force", 1, 1, 12, 0, 1, 0);
        // general 0 falls by one each hour while general 1 rises: 9 and 2 become 6 and 5
        HiccupPeace w = States.byLevels(9, 2);
        w.does(0, -1);
        w.set(2, NOTHING_ALONE - 2);
        for (int n = 1; n <= 12; n++) {
            s.due("falling, in " + n, w.force(0, n, 0), n >= 3 ? 1 : 0);
        }
    }

    private void forceWhether() {
        s.says("whether the one can have both HICCUP in one of these HOURS, whatever the other one serves: 1, 0;");
        for (int peace = 0; peace <= 9; peace++) {
            for (int war = 0; war <= 9; war++) {
                HiccupPeace x = States.byLevels(peace, war);
                x.set(2, NOTHING_ALONE);
                s.due("as they are, " + peace + " and " + war, x.force(3, 2, 0), peace >= 5 && war >= 5 ? 1 : 0);
                x.set(2, 126 - 4 - 8);
                // in hour 3 vinegar leads him from 9 to 5 alone, and champagne the other one from 2
                s.due("in an hour, " + peace + " and " + war, x.force(3, 1, 0), peace == 9 && war >= 2 ? 1 : 0);
                x.set(1, 1 + war % 2);
                s.due("by each law, " + peace + " and " + war, x.force(3, 1, 0), peace == 9 && war >= 2 ? 1 : 0);
                x.set(0, 10);
                s.due("none comes to 10", x.force(3, 12, 0), 0);
            }
        }
        HiccupPeace y = States.byLevels(0, 0);
        y.set(2, NOTHING_ALONE);
        y.does(0, 1);
        s.due("nothing brings both to it", y.force(0, 5, 0), 1);
        s.due("but not in four hours", y.force(0, 4, 0), 0);
        s.due("and so in twelve", y.force(0, 12, 0), 1);
        y.does(0, 9);
        s.due("at once, and nobody may wait", y.force(0, 1, 0), 1);
        y.calm(0, 9);
        y.calm(1, 9);
        y.does(0, -9);
        s.due("nothing calms both, whatever was asked before", y.force(0, 12, 0), 0);
        y.calm(1, 5);
        y.does(0, -1);
        s.due("nothing calms the one, and there is no other dish", y.force(0, 12, 0), 0);
    }

    private void forceFirst() {
        s.says("the DISH by which one begins (the least; NONE: one cannot).");
        HiccupPeace x = States.byLevels(9, 2);
        x.set(2, NOTHING_ALONE - 4);
        s.due("champagne, as there is but an hour", x.force(0, 1, 1), 2);
        s.due("nothing, as there is time", x.force(0, 2, 1), 0);
        x.set(2, NOTHING_ALONE - 4 - 2);
        s.due("nothing, and bread would do too", x.force(0, 2, 1), 0);
        x.does(0, -1);
        x.calm(0, 9);
        s.due("bread then champagne, as nothing calms", x.force(0, 2, 1), 1);
        s.due("bread does not do alone", x.force(0, 1, 1), 2);
        x.set(0, 10);
        s.due("one cannot", x.force(0, 2, 1), NONE);
    }

    private void forceAhead() {
        s.says("(Ahead of that HOUR all is as told.)");
        HiccupPeace x = Check.typed("cccf", "cccf");
        x.set(2, NOTHING_ALONE);
        s.due("from calm on", x.force(0, 1, 0), 0);
        s.due("behind champagne", x.force(1, 1, 0), 1);
        s.due("what is told for the hour itself is not served", x.force(3, 1, 0), 1);
        s.due("behind the fright", x.force(4, 12, 0), 0);
        x.calm(0, 5);
        x.calm(1, 5);
        s.due("calm as told", x.force(0, 1, 0), 1);
    }
}
