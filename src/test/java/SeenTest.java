/** Promises 22 to 27: what was seen, the parrot, and the third one in training. */
public final class SeenTest {
    private static final Check check = new Check();

    public static void main(String[] args) {
        promise22Seen();
        promise23Forget();
        promise24Fright();
        promise25Unlike();
        promise26Parrot();
        promise27Trained();
        check.end();
    }

    private static void promise22Seen() {
        HiccupPeace x = new HiccupPeace();
        int[][] wrong = {{3, 0, 0}, {-1, 0, 0}, {0, 24, 0}, {0, -1, 0}, {0, 0, 2}, {0, 0, -1},
            {Integer.MAX_VALUE, Integer.MIN_VALUE, 9}};
        long before = x.digest();
        for (int[] w : wrong) {
            check.refused("seen " + w[0] + " " + w[1] + " " + w[2], x, before, x.seen(w[0], w[1], w[2]), Check.BAD);
        }
        for (int n = 1; n <= 8; n++) {
            check.due("seen", x.seen(n % 3, 23, n % 2), n);
        }
        before = x.digest();
        check.refused("the ninth", x, before, x.seen(0, 0, 0), Check.FULL);
        check.refused("BAD ahead of FULL", x, before, x.seen(0, 24, 0), Check.BAD);
        check.due("8 are held", x.count(5), 8);
    }

    private static void promise23Forget() {
        HiccupPeace x = new HiccupPeace();
        check.due("none to forget", x.forget(), 0);
        x.seen(0, 1, 1);
        x.seen(0, 1, 1);
        check.due("forget", x.forget(), 2);
        check.due("forgotten", x.count(5), 0);
        check.due("forgotten of unlike", x.unlike(), 0);
        check.due("forgotten of fright", x.fright(0), Check.ALL_HOURS);
        check.due("seen anew", x.seen(1, 1, 0), 1);
    }

    private static void promise24Fright() {
        HiccupPeace x = Check.typed("cccccccc", "cs", "");
        check.due("none seen: any hour", x.fright(0), Check.ALL_HOURS);
        x.seen(0, 3, 0);
        // a fright and champagne: 3, and 6 behind the second one
        check.due("not in hour 3", x.fright(0), Check.hours(2, 3));
        x.seen(0, 2, 1);
        check.due("but in hour 2", x.fright(0), Check.hours(3));
        check.due("of him alone", x.fright(1), Check.ALL_HOURS);
        x.seen(0, 2, 0);
        check.due("it cannot be both", x.fright(0), 0);
        x.seen(1, 1, 0);
        check.due("asleep, or frightened ahead", x.fright(1), Check.ALL_HOURS);
        x.seen(1, 0, 1);
        check.due("not in hour 0", x.fright(1), Check.ALL_HOURS - 1);
        x.set(2, 1 << 4);
        check.due("forbidding it is nothing to it", x.fright(1), Check.ALL_HOURS - 1);
        // a fright in place of sleep: with no effect he is awake, and heard
        x.forget();
        x.does(4, 0);
        x.seen(1, 1, 1);
        check.due("in place of sleep", x.fright(1), Check.hours(1));
        check.due("the menu stays", x.dish(1, 1), 5);
        x.seen(2, 23, 1);
        check.due("nowhere", x.fright(2), 0);
        for (int g : new int[] {3, -1, Integer.MIN_VALUE, Integer.MAX_VALUE}) {
            check.due("fright " + g, x.fright(g), Check.BAD);
        }
    }

    private static void promise25Unlike() {
        HiccupPeace x = Check.typed("c", "", "cs");
        check.due("none", x.unlike(), 0);
        x.seen(0, 5, 1);
        x.seen(1, 5, 0);
        check.due("as told", x.unlike(), 0);
        x.seen(0, 5, 0);
        x.seen(1, 5, 1);
        x.seen(2, 1, 1);
        check.due("of all of them", x.unlike(), 3);
        x.seen(2, 1, 1);
        check.due("one twice", x.unlike(), 4);
        x.type(2, 'x');
        x.set(0, 3);
        check.due("as told now", x.unlike(), 2);
    }

    private static void promise26Parrot() {
        // general 0 in hours 0, 2, 3 and 22; general 1 in 1 to 4 and 23
        HiccupPeace x = Check.typed("cfcnfnnnnnnnnnnnnnnnnncf", "fcnnnfnnnnnnnnnnnnnnnnnc");
        x.does(2, 9);
        check.due("general 0", x.hiccups(0), Check.hours(0, 2, 3, 22));
        check.due("general 1", x.hiccups(1), Check.hours(1, 2, 3, 4, 23));
        check.due("of general 0", x.parrot(0), Check.hours(1, 4, 23));
        check.due("of general 1", x.parrot(1), 0);
        Check.retype(x, 0, "nnnnnc");
        check.due("of general 1, the other one does", x.parrot(1), Check.hours(5));
        Check.retype(x, 0, "c");
        Check.retype(x, 1, "c");
        check.due("both do", x.parrot(0), 0);
        for (int g : new int[] {2, 3, -1, Integer.MIN_VALUE, Integer.MAX_VALUE}) {
            check.due("parrot " + g, x.parrot(g), Check.BAD);
        }
    }

    private static void promise27Trained() {
        HiccupPeace x = Check.typed("nnnnc", "", "c");
        check.due("as it is", x.trained(0, 0), 20);
        check.due("at most", x.trained(0, 1), 24);
        check.due("by moving on 4", x.trained(0, 2), 4);
        check.due("like none", x.trained(1, 0), 0);
        check.due("the later the better", x.trained(1, 1), 23);
        check.due("by moving on 23", x.trained(1, 2), 23);
        Check.retype(x, 2, "n");
        check.due("of like ones, how many", x.trained(0, 1), 4);
        check.due("of like ones the least", x.trained(0, 2), 0);
        // what comes behind hour 23 falls away: the champagne at the end does so at once
        Check.retype(x, 2, "nnnnnnnnnnnnnnnnnnnnnnnc");
        check.due("the last hour, as it is", x.trained(1, 0), 23);
        check.due("the last hour moved away", x.trained(1, 1), 24);
        check.due("by moving on 1", x.trained(1, 2), 1);
        // nothing ahead of it, which may do something
        x.does(0, 1);
        Check.retype(x, 2, "vvv");
        Check.retype(x, 1, "");
        check.due("nothing tells, as it is", x.trained(1, 0), 18);
        check.due("nothing tells, moved", x.trained(1, 2), 23);
        Check.retype(x, 2, "x");
        check.due("with a fault as if empty", x.trained(1, 0), 24);
        int[][] wrong = {{2, 0}, {3, 0}, {-1, 0}, {0, 3}, {0, -1}, {2, 3}, {Integer.MIN_VALUE, 0},
            {0, Integer.MAX_VALUE}};
        for (int[] w : wrong) {
            check.due("trained " + w[0] + " " + w[1], x.trained(w[0], w[1]), Check.BAD);
        }
    }
}
