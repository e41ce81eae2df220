import java.math.BigInteger;
import java.util.Random;

/** The second part of the terms: the armistice, what a hiccup goes back to, odds, and what is heard by lots. */
final class TermsTwoSentences {
    private static final int NONE = Check.NONE, ALL = Check.ALL_HOURS;
    private final Sentences s;

    TermsTwoSentences(Sentences s) {
        this.s = s;
    }

    void run() {
        s.in("Terms");
        armistice();
        led();
        oddsOfAnHour();
        oddsOfHours();
        heardOrder();
        heardLessThanLevel();
        heardBits();
        lotsWrap();
        lotsUpperBits();
    }

    private void rowDue(String what, int brokenHours, int from, int length) {
        HiccupPeace x = States.byHours(brokenHours, ALL);
        s.due(what + ", from", x.armistice(0), from);
        s.due(what + ", how many", x.armistice(1), length);
    }

    private void armistice() {
        s.says("ARMISTICE: the longest row of HOURS in none of which the peace is BROKEN,");
        rowDue("at the beginning", Check.row(5, 23) - Check.hours(9), 0, 5);
        rowDue("within", Check.row(0, 23) - Check.row(6, 7) - Check.row(10, 12) - Check.hours(20), 10, 3);
        rowDue("at the end", Check.row(0, 20) - Check.row(4, 5), 21, 3);
        rowDue("hour 0 alone", Check.row(1, 23), 0, 1);
        rowDue("hour 23 alone", Check.row(0, 22), 23, 1);
        rowDue("the whole day", 0, 0, 24);
        rowDue("all but hour 0", Check.hours(0), 1, 23);
        rowDue("all but hour 23", Check.hours(23), 0, 23);
        Random random = new Random(16);
        for (int round = 0; round < 100; round++) {
            longestDue(random.nextInt(1 << 24) & random.nextInt(1 << 24));
        }
        s.says("of like ones the first:");
        rowDue("two of one hour", Check.row(0, 23) - Check.hours(3, 9), 3, 1);
        rowDue("two of eleven", Check.hours(11, 23), 0, 11);
        rowDue("three, the second is longer by one", Check.hours(7, 16), 8, 8);
        s.says("the HOUR in which it begins (NONE: there is none), how many.");
        rowDue("none", ALL, NONE, 0);
        rowDue("from hour 2", Check.row(0, 1) + Check.row(5, 23), 2, 3);
    }

    /** By looking at every row that there could be, the longest ones first. */
    private void longestDue(int brokenHours) {
        for (int length = 24; length > 0; length--) {
            for (int from = 0; from + length <= 24; from++) {
                if ((brokenHours & Check.row(from, from + length - 1)) == 0) {
                    rowDue("broken in " + Integer.toBinaryString(brokenHours), brokenHours, from, length);
                    return;
                }
            }
        }
    }

    private void led() {
        s.says("LED of a HICCUP: the HOUR in which the LEVEL came to MARK or more, and was so since:");
        HiccupPeace x = Check.typed("bbssvccnb", "", "n".repeat(23) + "c");
        s.due("just the mark", x.led(0, 1), 1);
        s.due("not yet", x.led(0, 0), Check.NOT);
        s.due("below it again", x.led(0, 5), Check.NOT);
        s.due("anew", x.led(0, 6), 6);
        s.due("since then", x.led(0, 8), 6);
        s.due("since then, at last", x.led(0, 23), 6);
        s.due("in the last hour", x.led(2, 23), 23);
        HiccupPeace y = Check.typed("ccsn", "bcn");
        s.due("asleep the level stays", y.led(0, 3), 0);
        s.due("from 4 to 7", y.led(1, 2), 1);
        y.set(0, 4);
        s.due("by another mark", y.led(1, 2), 0);
        s.says("NONE, if it was so ahead of HOUR 0.");
        HiccupPeace z = States.byLevels(5, 4, 9);
        Check.type(z, 1, "b");
        Check.type(z, 2, "fc" + "n".repeat(20) + "c");
        s.due("calm is just the mark, hour 0", z.led(0, 0), NONE);
        s.due("calm is just the mark, hour 23", z.led(0, 23), NONE);
        s.due("calm is just below it", z.led(1, 0), 0);
        s.due("it was, but not since", z.led(2, 22), 22);
    }

    private void oddsOfAnHour() {
        s.says("ODDS: in each HOUR each of GENERALS 0 and 1 who does not sleep HICCUPS by LEVEL sixteenths, by himself:");
        for (int one = 0; one <= 9; one++) {
            for (int other = 0; other <= 9; other++) {
                int free = 0;
                for (int lots = 0; lots < 256; lots++) {
                    free += lots / 16 < one && lots % 16 < other ? 0 : 1;
                }
                HiccupPeace x = States.byLevels(one, other, 9);
                x.set(0, 10);
                s.due(one + " and " + other, x.odds(0, 1, 0) * 256, free * x.odds(0, 1, 1));
            }
        }
        for (int g = 0; g < 2; g++) {
            HiccupPeace x = States.byLevels(9, 9);
            x.does(5, 0);
            Check.type(x, g, "ns");
            s.due("awake, above", x.odds(0, 1, 0), 175);
            s.due("awake, below", x.odds(0, 1, 1), 256);
            s.due("asleep, above", x.odds(1, 1, 0), 1);
            s.due("asleep, below", x.odds(1, 1, 1), 1);
            s.due("awake then, above", x.odds(2, 1, 0), 175);
        }
    }

    private void oddsOfHours() {
        s.says("the chance that they do not both in any of n (0 to 7) HOURS from one on.");
        // levels of 0 are 4 to 9 in hours 0 to 5, those of 1 are 8 and 7 and so on down
        HiccupPeace x = Check.typed("bbbbbb", "ssssss".replace('s', 'h'));
        x.calm(1, 9);
        x.does(6, -1);
        int[] both = {4 * 8, 5 * 7, 6 * 6, 7 * 5, 8 * 4, 9 * 3, 9 * 3};
        for (int from = 0; from < 7; from++) {
            BigInteger above = BigInteger.ONE;
            for (int n = 0; from + n <= 7; n++) {
                BigInteger got = BigInteger.valueOf(x.odds(from, n, 0));
                BigInteger gotBelow = BigInteger.valueOf(x.odds(from, n, 1));
                s.isTrue(n + " hours from " + from,
                        got.multiply(BigInteger.valueOf(256).pow(n)).equals(above.multiply(gotBelow)));
                above = from + n < 7 ? above.multiply(BigInteger.valueOf(256 - both[from + n])) : above;
            }
        }
        s.due("no hour, above", x.odds(23, 0, 0), 1);
        s.due("no hour, below", x.odds(23, 0, 1), 1);
        HiccupPeace y = States.byLevels(9, 9);
        s.due("the least chance, above", y.odds(17, 7, 0), 175L * 175 * 175 * 175 * 175 * 175 * 175);
        s.due("the least chance, below", y.odds(17, 7, 1), 1L << 56);
        s.badBeyond("odds", 1, 0, 7, 0, 0, 0);
    }

    /** The lots of a day, three by three, told without ints that wrap. */
    private static int[] lots(int seed) {
        BigInteger wrap = BigInteger.ONE.shiftLeft(32);
        BigInteger state = BigInteger.valueOf(seed).mod(wrap);
        int[] row = new int[72];
        for (int k = 0; k < row.length; k++) {
            state = state.multiply(BigInteger.valueOf(1103515245L)).add(BigInteger.valueOf(12345)).mod(wrap);
            row[k] = state.divide(BigInteger.valueOf(65536)).intValueExact() % 16;
        }
        return row;
    }

    private void heardDue(String what, HiccupPeace x, int general, int seed, int level) {
        int[] lots = lots(seed);
        int due = 0;
        for (int hour = 0; hour < 24; hour++) {
            due |= lots[3 * hour + general] < level ? 1 << hour : 0;
        }
        s.due(what + " of " + general + " by " + seed, x.heard(general, seed), due);
    }

    private void heardOrder() {
        s.says("HEARD by a SEED: in HOURS 0 on a LOT of 16 for GENERAL 0, then one for GENERAL 1, .. then 2:");
        for (int seed : new int[] {0, 1, 7, 12345, -1}) {
            HiccupPeace x = States.byLevels(9, 5, 2);
            heardDue("one after another", x, 0, seed, 9);
            heardDue("one after another", x, 1, seed, 5);
            heardDue("one after another", x, 2, seed, 2);
            Check.type(x, 0, "s".repeat(24));
            Check.type(x, 1, "s".repeat(24));
            heardDue("a sleeper has his lot too", x, 2, seed, 2);
        }
    }

    private void heardLessThanLevel() {
        s.says("who does not sleep HICCUPS, if it is less than his LEVEL:");
        for (int level = 0; level <= 9; level++) {
            HiccupPeace x = States.byLevels(level, level, level);
            x.set(0, 10);
            for (int seed = -40; seed < 40; seed++) {
                heardDue("level " + level, x, (seed + 40) % 3, seed, level);
            }
        }
        HiccupPeace x = States.byLevels(9, 9, 9);
        x.does(5, 0);
        int heard = x.heard(1, 7);
        Check.type(x, 1, "s".repeat(12));
        s.isTrue("some would be", (heard & Check.row(0, 11)) != 0);
        s.due("asleep to hour 11", x.heard(1, 7), heard & Check.row(12, 23));
        s.due("lot 0 is not less than level 0", States.byLevels(0).heard(0, 0), 0);
        s.due("lot 0 is less than level 1", States.byLevels(1).heard(0, 0) & 1, 1);
    }

    private void heardBits() {
        s.says("HOURS in which one does, as bits.");
        // the lot of hour 0 is 0, and so is that of hour 23, by these seeds
        s.due("hour 0", States.byHours(Check.hours(0)).heard(0, 0), Check.hours(0));
        int seed = 0;
        while (lots(seed)[69] >= 9) {
            seed++;
        }
        s.due("hour 23", States.byHours(Check.hours(23)).heard(0, seed), Check.hours(23));
        s.due("no hour", States.byHours(0).heard(0, seed), 0);
    }

    private void lotsWrap() {
        s.says("LOTS of m: SEED becomes 1103515245 SEED and 12345, as ints that wrap;");
        HiccupPeace x = States.byLevels(9, 8, 7);
        int[] seeds = {Integer.MIN_VALUE, Integer.MIN_VALUE + 1, Integer.MAX_VALUE, -12345, 1 << 30, 0x7FFF0000, 2, 3};
        for (int seed : seeds) {
            heardDue("wrapped", x, 0, seed, 9);
            heardDue("wrapped", x, 1, seed, 8);
            heardDue("wrapped", x, 2, seed, 7);
        }
    }

    private void lotsUpperBits() {
        s.says("its upper 16 bits as a number from 0 on, modulo m.");
        // a first state below 0, whose lot is one that is not less than 1
        for (int seed = 0; seed < 200; seed++) {
            int first = 1103515245 * seed + 12345;
            int lot = (int) ((first & 0xFFFFFFFFL) / 65536 % 16);
            HiccupPeace x = States.byLevels(Math.min(9, lot), 0, 0);
            s.due("lot " + lot + " is not less than so much", x.heard(0, seed) & 1, 0);
            if (lot < 9) {
                s.due("lot " + lot + " is less than one more", States.byLevels(lot + 1).heard(0, seed) & 1, 1);
            }
        }
    }
}
