/** Promises 11 to 19: what happens hour by hour. */
public final class HoursTest {
    private static final Check check = new Check();

    public static void main(String[] args) {
        promise11Dish();
        promise12Level();
        promise13Hiccups();
        promise14Broken();
        promise15Judged();
        promise16Armistice();
        promise17Led();
        promise18Odds();
        promise19Heard();
        check.end();
    }

    private static void promise11Dish() {
        HiccupPeace x = Check.typed("nbcvfsh", "b", "bx");
        for (int hour = 0; hour < 7; hour++) {
            check.due("dish " + hour, x.dish(0, hour), hour);
        }
        check.due("nothing behind the last one", x.dish(0, 7), 0);
        check.due("nothing at last", x.dish(0, 23), 0);
        check.due("the other one's", x.dish(1, 0), 1);
        check.due("nothing with a fault", x.dish(2, 0), 0);
        wrongGeneralOrHour("dish", x, 0);
    }

    private static void wrongGeneralOrHour(String act, HiccupPeace x, int which) {
        int[][] wrong = {{3, 0}, {-1, 0}, {0, 24}, {0, -1}, {3, 24}, {Integer.MIN_VALUE, Integer.MAX_VALUE}};
        for (int[] w : wrong) {
            int got = which == 0 ? x.dish(w[0], w[1]) : which == 1 ? x.level(w[0], w[1]) : x.led(w[0], w[1]);
            check.due(act + " " + w[0] + " " + w[1], got, Check.BAD);
        }
    }

    private static void promise12Level() {
        HiccupPeace x = Check.typed("bccvvvbfh", "cccsh");
        int[] levels = {4, 7, 9, 5, 1, 0, 1, 0, 0, 0};
        for (int hour = 0; hour < levels.length; hour++) {
            check.due("level " + hour, x.level(0, hour), levels[hour]);
        }
        check.due("9 at most", x.level(1, 2), 9);
        check.due("sleep calms", x.level(1, 3), 8);
        check.due("herbs calm", x.level(1, 4), 6);
        check.due("as it was at last", x.level(1, 23), 6);
        x.does(0, 1);
        check.due("nothing may do something", x.level(1, 7), 9);
        x.does(0, -1);
        check.due("0 at least", x.level(1, 23), 0);
        wrongGeneralOrHour("level", x, 1);
    }

    private static void promise13Hiccups() {
        HiccupPeace x = Check.typed("bbsbvb", "", "cx");
        check.due("5 is the mark; asleep he does not", x.hiccups(0), Check.hours(1, 3));
        x.set(0, 4);
        check.due("4 is the mark", x.hiccups(0), Check.hours(0, 1, 3));
        check.due("3 is below it", x.hiccups(1), 0);
        x.set(0, 3);
        check.due("3 is the mark", x.hiccups(1), Check.ALL_HOURS);
        check.due("a fault is an empty menu", x.hiccups(2), Check.ALL_HOURS);
        x.set(0, 10);
        x.calm(0, 9);
        check.due("none comes to 10", x.hiccups(0), 0);
        for (int g : new int[] {3, -1, Integer.MIN_VALUE, Integer.MAX_VALUE}) {
            check.due("hiccups of " + g, x.hiccups(g), Check.BAD);
        }
    }

    private static HiccupPeace apart() {
        // general 0 hiccups in hours 0, 1, 4 and 23, general 1 in 1, 2 and 5
        HiccupPeace x = Check.typed("nnfncfnnnnnnnnnnnnnnnnnc", "fcnfncfnnnnnnnnnnnnnnnnn");
        x.does(2, 9);
        x.calm(0, 9);
        return x;
    }

    private static void promise14Broken() {
        HiccupPeace x = apart();
        check.due("general 0", x.hiccups(0), Check.hours(0, 1, 4, 23));
        check.due("general 1", x.hiccups(1), Check.hours(1, 2, 5));
        check.due("both", x.broken(0), Check.hours(1));
        check.due("either", x.broken(1), Check.hours(0, 1, 2, 4, 5, 23));
        check.due("both, or one an hour ahead", x.broken(2), Check.hours(1, 2, 5));
        Check.retype(x, 0, "fcf");
        x.calm(1, 9);
        Check.retype(x, 1, "nff");
        check.due("ahead of the other side too", x.broken(2), Check.hours(1));
        check.due("not both", x.broken(0), 0);
        for (int law : new int[] {3, -1, Integer.MIN_VALUE, Integer.MAX_VALUE}) {
            check.due("broken " + law, x.broken(law), Check.BAD);
        }
        // what one does in the last hour must not come round to a 25th
        Check.retype(x, 0, "nnnnnnnnnnnnnnnnnnnnnnnc");
        Check.retype(x, 1, "fnnnnnnnnnnnnnnnnnnnnnnc");
        x.calm(0, 0);
        check.due("the last hour", x.broken(2), Check.hours(23));
    }

    private static void promise15Judged() {
        HiccupPeace x = apart();
        check.due("law 0", x.judged(), 1);
        x.set(1, 1);
        check.due("law 1", x.judged(), 0);
        x.set(1, 2);
        check.due("law 2", x.judged(), 1);
        Check.retype(x, 0, "fcf");
        check.due("law 2, by the hour ahead", x.judged(), 1);
        x.set(0, 10);
        check.due("never", x.judged(), Check.NONE);
    }

    private static void promise16Armistice() {
        HiccupPeace x = apart();
        check.due("law 0, from", x.armistice(0), 2);
        check.due("law 0, how many", x.armistice(1), 22);
        x.set(1, 1);
        check.due("law 1, from", x.armistice(0), 6);
        check.due("law 1, how many", x.armistice(1), 17);
        x.set(1, 2);
        check.due("law 2, from", x.armistice(0), 6);
        check.due("law 2, how many", x.armistice(1), 18);
        x.set(0, 10);
        check.due("all day, from", x.armistice(0), 0);
        check.due("all day, how many", x.armistice(1), 24);
        HiccupPeace y = new HiccupPeace();
        y.set(0, 3);
        check.due("none, from", y.armistice(0), Check.NONE);
        check.due("none, how many", y.armistice(1), 0);
        // broken in hours 8 and 17: rows of 8, 8 and 6
        HiccupPeace z = Check.typed("nnnnnnnncfnnnnnnncf");
        z.does(2, 9);
        z.set(1, 1);
        check.due("like rows", z.broken(1), Check.hours(8, 17));
        check.due("of like ones the first", z.armistice(0), 0);
        check.due("of like ones, how many", z.armistice(1), 8);
        check.due("what 2", z.armistice(2), Check.BAD);
        check.due("what -1", z.armistice(-1), Check.BAD);
    }

    private static void promise17Led() {
        HiccupPeace x = Check.typed("bcnsnvncc", "nsn");
        check.due("below the mark", x.led(0, 0), Check.NOT);
        check.due("at once", x.led(0, 1), 1);
        check.due("since then", x.led(0, 2), 1);
        check.due("asleep", x.led(0, 3), Check.NOT);
        check.due("through sleep", x.led(0, 4), 1);
        check.due("calm again", x.led(0, 6), Check.NOT);
        check.due("anew", x.led(0, 7), 7);
        check.due("up to the last", x.led(0, 23), 7);
        x.calm(1, 9);
        check.due("ahead of hour 0", x.led(1, 0), Check.NONE);
        check.due("asleep since", x.led(1, 1), Check.NOT);
        check.due("ahead of hour 0, at last", x.led(1, 23), Check.NONE);
        x.calm(1, 5);
        Check.retype(x, 1, "n");
        check.due("just the mark ahead", x.led(1, 0), Check.NONE);
        x.calm(1, 4);
        Check.retype(x, 1, "b");
        check.due("just below it ahead", x.led(1, 0), 0);
        wrongGeneralOrHour("led", x, 2);
    }

    private static void promise18Odds() {
        HiccupPeace x = Check.typed("bcs", "ccc");
        check.due("no hour, above", x.odds(23, 0, 0), 1);
        check.due("no hour, below", x.odds(23, 0, 1), 1);
        // levels 4 and 6: 24 of 256
        check.due("one hour, above", x.odds(0, 1, 0), 29);
        check.due("one hour, below", x.odds(0, 1, 1), 32);
        // then 7 and 9: 63 of 256
        check.due("two hours, above", x.odds(0, 2, 0), 29 * 193);
        check.due("two hours, below", x.odds(0, 2, 1), 32 * 256);
        check.due("asleep, above", x.odds(2, 1, 0), 1);
        check.due("asleep, below", x.odds(2, 1, 1), 1);
        x.set(0, 10);
        check.due("the mark is nothing to it", x.odds(0, 1, 0), 29);
        HiccupPeace y = new HiccupPeace();
        y.calm(0, 9);
        y.calm(1, 9);
        check.due("seven hours, above", y.odds(17, 7, 0), 175L * 175 * 175 * 175 * 175 * 175 * 175);
        check.due("seven hours, below", y.odds(17, 7, 1), 1L << 56);
        y.calm(0, 0);
        check.due("never, above", y.odds(0, 7, 0), 1);
        check.due("never, below", y.odds(0, 7, 1), 1);
        int[][] wrong = {{24, 0, 0}, {-1, 0, 0}, {0, 8, 0}, {0, -1, 0}, {18, 7, 0}, {23, 2, 1}, {0, 0, 2}, {0, 0, -1},
            {Integer.MAX_VALUE, 7, 0}, {1, Integer.MAX_VALUE, 0}, {0, 1, Integer.MIN_VALUE}};
        for (int[] w : wrong) {
            check.due("odds " + w[0] + " " + w[1] + " " + w[2], y.odds(w[0], w[1], w[2]), Long.MIN_VALUE + 2);
        }
    }

    private static void promise19Heard() {
        HiccupPeace x = Check.typed("cc", "", "ccsss");
        x.set(0, 10);
        int[] chances = new int[72];
        for (int k = 0; k < chances.length; k++) {
            chances[k] = x.dish(k % 3, k / 3) == 5 ? 0 : x.level(k % 3, k / 3);
        }
        for (int seed : new int[] {0, 1, 7, -1, Integer.MIN_VALUE, Integer.MAX_VALUE, 987654321}) {
            int[] due = new int[3];
            long state = seed & 0xFFFFFFFFL;
            for (int hour = 0; hour < 24; hour++) {
                for (int g = 0; g < 3; g++) {
                    state = (1103515245L * state + 12345L) & 0xFFFFFFFFL;
                    if ((state >> 16) % 16 < chances[3 * hour + g]) {
                        due[g] |= 1 << hour;
                    }
                }
            }
            for (int g = 0; g < 3; g++) {
                check.due("heard " + g + " by " + seed, x.heard(g, seed), due[g]);
            }
        }
        check.due("some are heard", x.heard(0, 7) == 0 ? 0 : 1, 1);
        check.due("none while asleep", x.heard(2, 7) & Check.hours(2, 3, 4), 0);
        for (int g : new int[] {3, -1, Integer.MIN_VALUE, Integer.MAX_VALUE}) {
            check.due("heard " + g, x.heard(g, 7), Check.BAD);
        }
    }
}
