/** Promises 22 to 27, sentence by sentence. */
final class SeenSentences {
    private static final int ALL = Check.ALL_HOURS, FULL = Check.FULL;
    private final Sentences s;

    SeenSentences(Sentences s) {
        this.s = s;
    }

    void run() {
        seen();
        forget();
        fright();
        unlike();
        parrot();
        trained();
    }

    private void seen() {
        s.in("Promise 22");
        s.says("SEEN more: how many.");
        HiccupPeace x = States.byLevels(9, 9, 9);
        int[][] rows = {{0, 0, 0}, {2, 23, 1}, {0, 23, 0}, {2, 0, 1}, {1, 0, 1}, {1, 23, 0}, {0, 0, 0}, {0, 0, 1}};
        for (int k = 0; k < 8; k++) {
            s.due("seen " + k, x.seen(rows[k][0], rows[k][1], rows[k][2]), k + 1);
            s.due("how many", x.count(5), k + 1);
        }
        s.due("four of them are unlike", x.unlike(), 4);
        s.says("BAD;");
        s.badBeyond("seen", 0, 0, 2, 0, 0, 0);
        s.badBeyond("seen", 1, 0, 23, 2, 0, 1);
        s.badBeyond("seen", 2, 0, 1, 0, 23, 0);
        s.says("FULL.");
        s.refused(States.FULL, FULL, "seen", 0, 0, 0);
        s.refused(States.FULL, FULL, "seen", 2, 23, 1);
        // one that is there already is one more all the same
        s.refused(States.FULL, FULL, "seen", 0, 0, 0);
        HiccupPeace y = States.full();
        y.forget();
        s.due("room anew", y.seen(0, 0, 0), 1);
    }

    private void forget() {
        s.in("Promise 23");
        s.says("All SEEN are forgotten: how many.");
        for (int n = 0; n <= 8; n++) {
            HiccupPeace x = new HiccupPeace();
            for (int k = 0; k < n; k++) {
                x.seen(k % 3, k, 1);
            }
            s.due("how many", x.forget(), n);
            s.due("none is left", x.count(5), 0);
            s.due("none is unlike", x.unlike(), 0);
            s.due("none stands against a fright", x.fright(0), ALL);
            s.due("none to forget", x.forget(), 0);
            s.due("one more", x.seen(0, 0, 1), 1);
            s.due("that one alone is unlike", x.unlike(), 1);
        }
    }

    private void fright() {
        s.in("Promise 24");
        s.says("FRIGHT, as bits.");
        for (int g = 0; g < 3; g++) {
            for (int hour = 0; hour < 24; hour++) {
                HiccupPeace x = States.byLevels(9, 9, 9);
                x.seen(g, hour, 0);
                s.due("up to hour " + hour, x.fright(g), Check.row(0, hour));
                s.due("of the next one", x.fright((g + 1) % 3), ALL);
                x.forget();
                x.seen(g, hour, 1);
                s.due("behind hour " + hour, x.fright(g), hour == 23 ? 0 : Check.row(hour + 1, 23));
                if (hour > 0) {
                    x.seen(g, hour - 1, 0);
                    s.due("it cannot pass", x.fright(g), 0);
                }
            }
        }
        HiccupPeace told = Check.typed("fc");
        told.does(2, 9);
        told.seen(0, 0, 0);
        s.due("as told already, any hour", told.fright(0), ALL);
        s.says("BAD.");
        s.badBeyond("fright", 0, 0, 2, 0);
    }

    private void unlike() {
        s.in("Promise 25");
        s.says("UNLIKE.");
        s.due("none", new HiccupPeace().unlike(), 0);
        s.due("of the full one", States.full().unlike(), unlikeByHand(States.full()));
        HiccupPeace x = States.byHours(ALL, 0, Check.hours(23));
        x.seen(0, 23, 0);
        x.seen(1, 23, 1);
        x.seen(2, 23, 1);
        x.seen(2, 22, 1);
        s.due("three of four", x.unlike(), 3);
        x.type(2, 'c');
        x.undo(2);
        x.undo(2);
        s.due("without his last dish", x.unlike(), 4);
    }

    /** What States.full() has seen, by what it says of the hours. */
    private static int unlikeByHand(HiccupPeace x) {
        int sum = 0;
        for (int k = 0; k < 8; k++) {
            sum += (x.hiccups(k % 3) >> (3 * k) & 1) == k % 2 ? 0 : 1;
        }
        return sum;
    }

    private void parrot() {
        s.in("Promise 26");
        s.says("FALSE ALARMS, as bits.");
        HiccupPeace x = States.byHours(Check.hours(0, 5, 6, 22), Check.hours(1, 6, 7, 23), ALL);
        s.due("of general 0", x.parrot(0), Check.hours(1, 7, 23));
        s.due("of general 1", x.parrot(1), 0);
        HiccupPeace y = States.byHours(Check.hours(1, 7, 8, 23), Check.hours(0, 6, 7, 22), ALL);
        s.due("of general 1, the other way round", y.parrot(1), Check.hours(1, 8, 23));
        s.due("both always", States.byHours(ALL, ALL).parrot(0), 0);
        s.due("none", new HiccupPeace().parrot(1), 0);
        s.says("BAD: GENERAL 2.");
        s.bad("parrot", 2);
        s.badBeyond("parrot", 0, 0, 1, 0);
    }

    private void trained() {
        s.in("Promise 27");
        s.says("TRAINED: in how many HOURS (what = 0),");
        HiccupPeace x = States.byHours(Check.hours(3), Check.hours(5, 6));
        Check.type(x, 2, "cf");
        s.due("like 0", x.trained(0, 0), 22);
        s.due("like 1", x.trained(1, 0), 21);
        s.says("the most (1),");
        s.due("like 0", x.trained(0, 1), 24);
        s.due("like 1", x.trained(1, 1), 23);
        s.says("by which k (2).");
        s.due("like 0", x.trained(0, 2), 3);
        s.due("like 1", x.trained(1, 2), 5);
        s.due("the menu is not moved", x.trained(0, 0), 22);
        for (int hour = 0; hour < 24; hour++) {
            HiccupPeace y = States.byHours(Check.hours(hour), 0);
            Check.type(y, 2, "cf");
            s.due("on to hour " + hour, y.trained(0, 2), hour);
            s.due("on to hour " + hour + ", like in all", y.trained(0, 1), 24);
        }
        s.says("BAD: GENERAL 2.");
        s.bad("trained", 2, 0);
        s.badBeyond("trained", 0, 0, 1, 0, 2);
        s.badBeyond("trained", 1, 0, 2, 1, 0);
    }
}
