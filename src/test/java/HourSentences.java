/** Promises 11 to 19, sentence by sentence. */
final class HourSentences {
    private static final int NONE = Check.NONE, NOT = Check.NOT, ALL = Check.ALL_HOURS;
    private final Sentences s;

    HourSentences(Sentences s) {
        this.s = s;
    }

    void run() {
        dish();
        level();
        hiccups();
        broken();
        judged();
        armistice();
        led();
        odds();
        heard();
    }

    private void badGeneralOrHour(String act) {
        s.says("BAD" + (act.equals("led") ? ";" : "."));
        s.badBeyond(act, 0, 0, 2, 0, 0);
        s.badBeyond(act, 0, 0, 2, 0, 23);
        s.badBeyond(act, 1, 0, 23, 0, 0);
        s.badBeyond(act, 1, 0, 23, 2, 0);
        s.bad(act, 3, 24);
    }

    private void dish() {
        s.in("Promise 11");
        s.says("The DISH of an HOUR.");
        HiccupPeace x = States.full();
        for (int hour = 0; hour < 24; hour++) {
            int due = "nbcvfsh".indexOf(States.WHOLE_DAY.charAt(hour));
            s.due("a full menu", x.dish(0, hour), due);
            s.due("a fault at its end", x.dish(1, hour), 0);
            s.due("of the third one", x.dish(2, hour), due);
        }
        x.undo(1);
        s.due("without the fault", x.dish(1, 0), 1);
        s.due("behind the last one", x.dish(1, 23), 0);
        s.due("an empty menu, hour 0", new HiccupPeace().dish(0, 0), 0);
        s.due("an empty menu, hour 23", new HiccupPeace().dish(0, 23), 0);
        badGeneralOrHour("dish");
    }

    private void level() {
        s.in("Promise 12");
        s.says("The LEVEL of an HOUR.");
        HiccupPeace x = Check.typed("c" + "n".repeat(22) + "b", "cx", "");
        x.calm(2, 9);
        s.due("hour 0", x.level(0, 0), 6);
        s.due("hour 22", x.level(0, 22), 6);
        s.due("hour 23", x.level(0, 23), 7);
        s.due("with a fault", x.level(1, 0), 3);
        s.due("with a fault, hour 23", x.level(1, 23), 3);
        s.due("an empty menu", x.level(2, 23), 9);
        badGeneralOrHour("level");
    }

    private void hiccups() {
        s.in("Promise 13");
        s.says("HOURS in which one HICCUPS, as bits.");
        int[] rows = {0, 1, 1 << 23, ALL, 0x555555, 0xAAAAAA, ALL - 1, ALL >> 1};
        for (int k = 0; k < rows.length; k++) {
            int[] hours = {rows[k], rows[(k + 1) % rows.length], rows[(k + 2) % rows.length]};
            HiccupPeace x = States.byHours(hours);
            for (int g = 0; g < 3; g++) {
                s.due("hours of " + g, x.hiccups(g), hours[g]);
            }
        }
        s.says("BAD.");
        s.badBeyond("hiccups", 0, 0, 2, 0);
    }

    private void broken() {
        s.in("Promise 14");
        s.says("HOURS in which the peace is BROKEN by a LAW, as bits.");
        HiccupPeace x = States.byHours(Check.hours(0, 5, 8, 23), Check.hours(0, 4, 9, 23), Check.hours(4, 5));
        for (int told = 0; told < 3; told++) {
            x.set(1, told);
            s.due("both", x.broken(0), Check.hours(0, 23));
            s.due("one at least", x.broken(1), Check.hours(0, 4, 5, 8, 9, 23));
            s.due("or one an hour ahead", x.broken(2), Check.hours(0, 5, 9, 23));
        }
        for (int law = 0; law < 3; law++) {
            s.due("never", States.byHours(0, 0, ALL).broken(law), 0);
            s.due("always", States.byHours(ALL, ALL).broken(law), ALL);
        }
        s.says("BAD.");
        s.badBeyond("broken", 0, 0, 2, 0);
    }

    private void judged() {
        s.in("Promise 15");
        s.says("The first HOUR in which it is BROKEN by the LAW that is told; NONE.");
        HiccupPeace x = States.byHours(Check.hours(3, 7, 12), Check.hours(6, 12, 20));
        s.due("law 0", x.judged(), 12);
        x.set(1, 1);
        s.due("law 1", x.judged(), 3);
        x.set(1, 2);
        s.due("law 2", x.judged(), 7);
        for (int hour = 0; hour < 24; hour++) {
            HiccupPeace y = States.byHours(Check.row(hour, 23), Check.row(hour, 23));
            for (int law = 0; law < 3; law++) {
                y.set(1, law);
                s.due("from hour " + hour + " by law " + law, y.judged(), hour);
            }
        }
        for (int law = 0; law < 3; law++) {
            HiccupPeace z = States.byHours(0, 0, ALL);
            z.set(1, law);
            s.due("none", z.judged(), NONE);
        }
    }

    private void armistice() {
        s.in("Promise 16");
        s.says("ARMISTICE: the HOUR (what = 0; NONE), how many (1).");
        HiccupPeace x = States.byHours(Check.hours(3, 12), Check.hours(4, 12));
        int[][] due = {{0, 12}, {13, 11}, {13, 11}};
        for (int law = 0; law < 3; law++) {
            x.set(1, law);
            s.due("by law " + law + ", the hour", x.armistice(0), due[law][0]);
            s.due("by law " + law + ", how many", x.armistice(1), due[law][1]);
        }
        HiccupPeace y = States.byHours(ALL, ALL);
        s.due("none, the hour", y.armistice(0), NONE);
        s.due("none, how many", y.armistice(1), 0);
        s.due("all day, the hour", new HiccupPeace().armistice(0), 0);
        s.due("all day, how many", new HiccupPeace().armistice(1), 24);
        s.says("BAD.");
        s.badBeyond("armistice", 0, 0, 1, 0);
    }

    private void led() {
        s.in("Promise 17");
        s.says("LED; NONE.");
        for (int g = 0; g < 3; g++) {
            HiccupPeace x = States.byHours(Check.hours(0, 1, 23), Check.hours(0, 1, 23), Check.hours(0, 1, 23));
            s.due("hour 0", x.led(g, 0), 0);
            s.due("hour 1", x.led(g, 1), 0);
            s.due("hour 23", x.led(g, 23), 23);
            x.calm(g, 9);
            s.due("ahead of hour 0", x.led(g, 1), NONE);
            s.due("not since", x.led(g, 23), 23);
        }
        badGeneralOrHour("led");
        s.says("NOT: he does not HICCUP.");
        HiccupPeace x = Check.typed("bbs", "cx");
        s.due("below the mark", x.led(0, 0), NOT);
        s.due("at the mark he does", x.led(0, 1), 1);
        s.due("asleep below it", x.led(0, 2), NOT);
        s.due("with a fault", x.led(1, 0), NOT);
        x.calm(0, 9);
        s.due("asleep above it", x.led(0, 2), NOT);
        for (int g = 0; g < 3; g++) {
            s.refused(States.NEW, NOT, "led", g, 0);
            s.refused(States.NEW, NOT, "led", g, 23);
        }
        s.refused(States.BUSY, NOT, "led", 0, 3);
        s.refused(States.FULL, NOT, "led", 0, 8);
    }

    private void odds() {
        s.in("Promise 18");
        s.says("ODDS: above, below.");
        HiccupPeace x = States.byLevels(6, 8);
        s.due("above", x.odds(0, 1, 0), 13);
        s.due("below", x.odds(0, 1, 1), 16);
        s.due("above of two", x.odds(22, 2, 0), 169);
        s.due("below of two", x.odds(22, 2, 1), 256);
        s.due("hour 23, above", x.odds(23, 1, 0), 13);
        s.due("hour 23, below", x.odds(23, 1, 1), 16);
        s.due("seven hours, above", x.odds(17, 7, 0), 62748517);
        s.due("seven hours, below", x.odds(17, 7, 1), 268435456);
        s.says("BAD: also beyond HOUR 23.");
        s.badBeyond("odds", 0, 0, 23, 0, 0, 0);
        s.badBeyond("odds", 1, 0, 7, 3, 0, 1);
        s.badBeyond("odds", 2, 0, 1, 3, 2, 0);
        for (int hour = 17; hour <= 23; hour++) {
            s.isTrue("up to hour 23 from " + hour, x.odds(hour, 24 - hour, 0) > 0);
            if (25 - hour <= 7) {
                s.bad("odds", hour, 25 - hour, 0);
            }
        }
        s.bad("odds", 24, 0, 0);
        s.bad("odds", 23, 7, 1);
        s.says("(As the least long.)");
        s.due("and 2 more", x.odds(23, 2, 0), Long.MIN_VALUE + 2);
        s.due("and 2 more, below", x.odds(-1, 1, 1), Long.MIN_VALUE + 2);
    }

    private void heard() {
        s.in("Promise 19");
        s.says("HEARD, as bits.");
        // by seed 0 the first three lots are 0, 6 and 1, as the states are 12345, -740551042 and 1406932606
        s.due("lot 0 of general 0", (12345 >>> 16) % 16, 0);
        int second = 1103515245 * 12345 + 12345;
        int third = 1103515245 * second + 12345;
        int[] lots = {0, (second >>> 16) % 16, (third >>> 16) % 16};
        for (int g = 0; g < 3; g++) {
            for (int level = 0; level <= 9; level++) {
                HiccupPeace x = new HiccupPeace();
                x.calm(g, level);
                s.due("hour 0 of " + g + " at " + level, x.heard(g, 0) & 1, lots[g] < level ? 1 : 0);
                s.due("no hour behind 23", x.heard(g, 0) >> 24, 0);
            }
        }
        HiccupPeace x = States.busy();
        for (int seed : new int[] {0, Integer.MIN_VALUE, Integer.MAX_VALUE, -1}) {
            s.due("any seed, and the same again", x.heard(0, seed), x.heard(0, seed));
            s.isTrue("any seed is taken", x.heard(0, seed) >= 0);
        }
        s.says("BAD.");
        for (int seed : new int[] {0, 7, Integer.MIN_VALUE}) {
            s.badBeyond("heard", 0, 0, 2, 0, seed);
        }
    }
}
