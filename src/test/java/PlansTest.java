/** Promises 20 and 21: the cheapest menu, and whether war can be forced; small ones by trying all. */
public final class PlansTest {
    private static final Check check = new Check();
    private static final String LETTERS = "nbcvfsh";

    public static void main(String[] args) {
        promise20Quiet();
        promise20QuietByLaw();
        promise20QuietRefused();
        promise20QuietByTryingAll();
        promise21Force();
        promise21ForceRefused();
        promise21ForceByTryingAll();
        check.end();
    }

    private static void rowDue(String what, HiccupPeace x, int general, int from, int to, int cost, int... dishes) {
        check.due(what + ", cost", x.quiet(general, from, to, Check.NONE), cost);
        for (int i = 0; i < dishes.length; i++) {
            check.due(what + ", dish " + i, x.quiet(general, from, to, i), dishes[i]);
        }
    }

    private static void promise20Quiet() {
        HiccupPeace x = Check.typed("cccc", "cccc");
        rowDue("nothing is enough from the start", x, 0, 0, 3, 0, 0, 0, 0, 0);
        rowDue("sleep, as it came to 9 ahead", x, 0, 3, 4, 0, 5, 5);
        x.price(5, 3);
        rowDue("one fright is cheaper than sleep", x, 0, 3, 4, 1, 4, 0);
        x.price(4, 4);
        rowDue("vinegar leads from 9 to the mark alone", x, 0, 3, 4, 4, 4, 0);
        x.price(3, 1);
        x.price(5, 1);
        rowDue("of like ones the least dishes", x, 0, 3, 4, 2, 5, 3);
        x.set(2, 1 << 3);
        rowDue("a forbidden one is not served", x, 0, 3, 4, 2, 5, 5);
        x.set(2, 126);
        check.due("only nothing, cost", x.quiet(0, 3, 4, Check.NONE), Check.NONE);
        check.due("only nothing, dish", x.quiet(0, 3, 4, 1), Check.NONE);
        x.set(2, 0);
        x.price(0, 99);
        x.price(1, 99);
        x.price(2, 99);
        x.price(3, 99);
        x.price(4, 99);
        x.price(5, 99);
        x.price(6, 99);
        rowDue("the dearest day", x, 1, 0, 23, 24 * 99, 0);
        HiccupPeace y = Check.typed("cccccccccccccccccccccccc", "nnncs");
        rowDue("he may hiccup while the other one does not", y, 0, 0, 2, 0, 0, 0, 0);
        y.price(0, 50);
        y.price(2, 0);
        y.price(5, 1);
        rowDue("the told dishes behind do not count", y, 0, 0, 3, 1, 2, 2, 2, 4);
        check.due("nothing is changed by it", y.dish(0, 3), 2);
    }

    private static void promise20QuietByLaw() {
        HiccupPeace x = Check.typed("", "c");
        x.price(0, 9);
        x.price(2, 0);
        x.price(5, 20);
        x.set(1, 1);
        check.due("law 1: the other one does", x.quiet(0, 0, 0, Check.NONE), Check.NONE);
        rowDue("law 1: he may not", x, 1, 0, 0, 1, 4);
        x.set(1, 2);
        rowDue("law 2: not both in an hour", x, 1, 0, 1, 0, 2, 2);
        x.set(1, 0);
        rowDue("law 0: not both", x, 1, 0, 1, 0, 2, 2);
    }

    private static void promise20QuietRefused() {
        HiccupPeace x = Check.typed("cc", "cc");
        x.set(2, 126);
        int[][] wrong = {{2, 0, 0, -1}, {-1, 0, 0, -1}, {3, 0, 0, 0}, {0, 3, 2, -1}, {0, -1, 2, -1}, {0, 0, 24, -1},
            {0, 24, 24, -1}, {0, 3, 4, 2}, {0, 3, 4, -2}, {0, 0, 23, 24}, {0, 5, 5, 1},
            {0, 3, 4, Integer.MAX_VALUE}, {0, 3, 4, Integer.MIN_VALUE},
            {0, Integer.MIN_VALUE, Integer.MAX_VALUE, 0}, {0, 0, Integer.MAX_VALUE, 0}};
        for (int[] w : wrong) {
            check.due("quiet " + w[0] + " " + w[1] + " " + w[2] + " " + w[3],
                    x.quiet(w[0], w[1], w[2], w[3]), Check.BAD);
        }
    }

    private static HiccupPeace mixed(java.util.Random random) {
        HiccupPeace x = new HiccupPeace();
        for (int g = 0; g < 2; g++) {
            int n = random.nextInt(10);
            for (int k = 0; k < n; k++) {
                x.type(g, LETTERS.charAt(random.nextInt(7)));
            }
            x.calm(g, random.nextInt(10));
        }
        for (int dish = 0; dish < 7; dish++) {
            x.price(dish, random.nextInt(4));
            if (random.nextInt(3) == 0) {
                x.does(dish, random.nextInt(19) - 9);
            }
        }
        x.set(0, 1 + random.nextInt(10));
        x.set(1, random.nextInt(3));
        x.set(2, random.nextInt(64) * 2);
        return x;
    }

    /** Types every menu in turn and asks the class itself for the hiccups. */
    private static void promise20QuietByTryingAll() {
        java.util.Random random = new java.util.Random(20);
        for (int round = 0; round < 120; round++) {
            HiccupPeace x = mixed(new java.util.Random(round));
            int general = random.nextInt(2);
            int from = random.nextInt(5);
            int n = 1 + random.nextInt(3);
            int forbidden = x.set(2, 0);
            x.set(2, forbidden);
            int[] ahead = new int[from];
            for (int hour = 0; hour < from; hour++) {
                ahead[hour] = x.dish(general, hour);
            }
            int[] got = new int[n];
            int gotCost = x.quiet(general, from, from + n - 1, Check.NONE);
            for (int i = 0; i < n; i++) {
                got[i] = x.quiet(general, from, from + n - 1, i);
            }
            int all = (int) Math.pow(7, n);
            int bestCost = Check.NONE;
            int best = 0;
            for (int row = 0; row < all; row++) {
                // each try has an object of its own, as one is good for 512 calls
                int cost = costOf(mixed(new java.util.Random(round)), general, ahead, n, row, forbidden);
                if (cost >= 0 && (bestCost == Check.NONE || cost < bestCost)) {
                    bestCost = cost;
                    best = row;
                }
            }
            check.due("cost by trying all, round " + round, gotCost, bestCost);
            for (int i = 0; i < n; i++) {
                int due = bestCost == Check.NONE ? Check.NONE : best / (int) Math.pow(7, n - 1 - i) % 7;
                check.due("dish by trying all, round " + round, got[i], due);
            }
        }
    }

    private static int costOf(HiccupPeace x, int general, int[] ahead, int n, int row, int forbidden) {
        x.wipe(general);
        for (int dish : ahead) {
            x.type(general, LETTERS.charAt(dish));
        }
        int cost = 0;
        for (int i = 0; i < n; i++) {
            int dish = row / (int) Math.pow(7, n - 1 - i) % 7;
            if ((forbidden >> dish & 1) == 1) {
                return Check.NONE;
            }
            int price = x.price(dish, 0);
            x.price(dish, price);
            cost += price;
            x.type(general, LETTERS.charAt(dish));
        }
        int law = x.count(4) == 1 ? 1 : 0;
        int these = Check.row(ahead.length, ahead.length + n - 1);
        return (x.broken(law) & these) == 0 ? cost : Check.NONE;
    }

    private static void promise21Force() {
        HiccupPeace x = Check.typed("cccc", "cccc");
        check.due("sleep keeps the peace", x.force(4, 12, 0), 0);
        check.due("so no dish begins", x.force(4, 12, 1), Check.NONE);
        x.set(2, 1 << 5);
        check.due("so does a fright", x.force(4, 12, 0), 0);
        x.set(2, 1 << 5 | 1 << 4);
        check.due("vinegar twice would, but the first hour is lost", x.force(4, 1, 0), 1);
        check.due("by nothing", x.force(4, 1, 1), 0);
        check.due("from below the mark he is never caught", x.force(0, 12, 0), 0);
        x.calm(1, 0);
        Check.retype(x, 1, "");
        Check.retype(x, 0, "");
        x.calm(0, 9);
        x.set(2, 126 - (1 << 2));
        check.due("champagne takes two hours to 5", x.force(0, 1, 0), 0);
        check.due("in two it is done", x.force(0, 2, 0), 1);
        check.due("by champagne", x.force(0, 2, 1), 2);
        check.due("in three, nothing may come first", x.force(0, 3, 1), 0);
        check.due("up to the last hour", x.force(22, 2, 0), 1);
        x.set(0, 10);
        check.due("none comes to 10", x.force(0, 12, 0), 0);
        x.set(0, 5);
        x.calm(0, 0);
        x.set(1, 1);
        check.due("both are wanted by law 1 too", x.force(0, 12, 0), 0);
        check.due("only told ahead of it", x.force(12, 12, 0), 0);
    }

    private static void promise21ForceRefused() {
        HiccupPeace x = new HiccupPeace();
        int[][] wrong = {{24, 1, 0}, {-1, 1, 0}, {0, 0, 0}, {0, 13, 0}, {0, -1, 1}, {13, 12, 0}, {23, 2, 1}, {0, 1, 2},
            {0, 1, -1}, {Integer.MAX_VALUE, 1, 0}, {1, Integer.MAX_VALUE, 0}, {Integer.MIN_VALUE, 1, 0}};
        for (int[] w : wrong) {
            check.due("force " + w[0] + " " + w[1] + " " + w[2], x.force(w[0], w[1], w[2]), Check.BAD);
        }
    }

    private static void promise21ForceByTryingAll() {
        java.util.Random random = new java.util.Random(21);
        int forced = 0;
        for (int round = 0; round < 1500; round++) {
            HiccupPeace x = mixed(random);
            // where sleep is served, peace always has a way out
            x.set(2, x.set(2, 0) | 1 << 5);
            int[] does = new int[7];
            for (int dish = 0; dish < 7; dish++) {
                does[dish] = x.does(dish, 0);
                x.does(dish, does[dish]);
            }
            int forbidden = x.set(2, 0);
            x.set(2, forbidden);
            int from = 1 + random.nextInt(5);
            int n = 1 + random.nextInt(3);
            int due = Check.NONE;
            for (int dish = 6; dish >= 0; dish--) {
                if (wins(does, x.count(3), forbidden, x.level(0, from - 1), x.level(1, from - 1), dish, n)) {
                    due = dish;
                }
            }
            forced += due == Check.NONE ? 0 : 1;
            check.due("force by trying all, round " + round, x.force(from, n, 0), due == Check.NONE ? 0 : 1);
            check.due("first dish by trying all, round " + round, x.force(from, n, 1), due);
        }
        check.isTrue("some are forced and some are not", forced > 100 && forced < 1400);
    }

    private static int moved(int level, int by) {
        return Math.max(0, Math.min(9, level + by));
    }

    /** Whether this first dish of war's leads to it, whatever comes then. */
    private static boolean wins(int[] does, int mark, int forbidden, int peace, int war, int warDish, int n) {
        if ((forbidden >> warDish & 1) == 1) {
            return false;
        }
        int warNext = moved(war, does[warDish]);
        for (int dish = 0; dish < 7; dish++) {
            int peaceNext = moved(peace, does[dish]);
            boolean both = warNext >= mark && warDish != 5 && peaceNext >= mark && dish != 5;
            if ((forbidden >> dish & 1) == 1 || both) {
                continue;
            }
            boolean later = false;
            for (int then = 0; n > 1 && then < 7 && !later; then++) {
                later = wins(does, mark, forbidden, peaceNext, warNext, then, n - 1);
            }
            if (!later) {
                return false;
            }
        }
        return true;
    }
}
