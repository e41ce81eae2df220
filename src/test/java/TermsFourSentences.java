import java.util.Random;

/** The fourth part of the terms: what was seen, frights, the parrot, the training; and how acts refuse. */
final class TermsFourSentences {
    private static final int ALL = Check.ALL_HOURS;
    private final Sentences s;

    TermsFourSentences(Sentences s) {
        this.s = s;
    }

    void run() {
        s.in("Terms");
        seen();
        fright();
        unlike();
        parrot();
        falseAlarms();
        trainedNow();
        trainedMost();
        trainedLeast();
        refusals();
    }

    private void seen() {
        s.says("SEEN, 8 at most: a GENERAL HICCUPED in an HOUR (1), or he did not (0).");
        HiccupPeace x = States.byHours(Check.hours(0), Check.hours(23), 0);
        int[][] right = {{0, 0, 1}, {0, 1, 0}, {1, 23, 1}, {1, 22, 0}, {2, 0, 0}, {2, 23, 0}, {0, 23, 0}, {1, 0, 0}};
        for (int k = 0; k < 8; k++) {
            s.due("seen " + k, x.seen(right[k][0], right[k][1], right[k][2]), k + 1);
            s.due("as told", x.unlike(), 0);
        }
        s.due("the ninth", x.seen(0, 0, 1), Check.FULL);
        HiccupPeace y = States.byHours(Check.hours(0), Check.hours(23), 0);
        for (int k = 0; k < 8; k++) {
            y.seen(right[k][0], right[k][1], 1 - right[k][2]);
            s.due("not as told", y.unlike(), k + 1);
        }
        s.badBeyond("seen", 2, 0, 1, 0, 0, 0);
    }

    private void fright() {
        s.says("FRIGHT: HOURS such that, had he been given a fright in that HOUR in place of what is told, "
                + "all that was SEEN of him would come out so, as bits.");
        HiccupPeace none = Check.typed("ccc", "x", "");
        for (int g = 0; g < 3; g++) {
            s.due("none seen, any hour", none.fright(g), ALL);
        }
        HiccupPeace x = States.byLevels(9, 9, 9);
        x.seen(0, 0, 0);
        s.due("not in hour 0: in hour 0 itself", x.fright(0), Check.hours(0));
        s.due("of him alone", x.fright(1), ALL);
        x.seen(1, 23, 1);
        s.due("still in hour 23: nowhere, as a fright lasts", x.fright(1), 0);
        x.seen(2, 22, 1);
        x.seen(2, 23, 0);
        s.due("in hour 22, but not in 23", x.fright(2), Check.hours(23));
        x.seen(2, 22, 0);
        s.due("all that was seen, and not some of it", x.fright(2), 0);
        HiccupPeace y = Check.typed("sc");
        y.calm(0, 9);
        y.seen(0, 1, 1);
        s.due("champagne falls away, or is too little", y.fright(0), Check.row(2, 23));
        HiccupPeace z = Check.typed("", "bcx", "");
        z.calm(1, 9);
        z.seen(1, 5, 0);
        s.due("with a fault, in place of nothing", z.fright(1), Check.row(0, 5));
        z.does(4, 0);
        s.due("by what a fright does", z.fright(1), 0);
        z.set(2, 16);
        z.does(4, -9);
        s.due("though it is forbidden", z.fright(1), Check.row(0, 5));
    }

    private void unlike() {
        s.says("UNLIKE: how many SEEN do not, as told.");
        HiccupPeace x = States.byLevels(5, 4, 9);
        Check.type(x, 2, "s");
        s.due("none seen", x.unlike(), 0);
        for (int k = 0; k < 8; k++) {
            x.seen(0, 3 * k, 0);
            s.due("each of them, also like ones", x.unlike(), k + 1);
        }
        x.set(0, 6);
        s.due("as told now", x.unlike(), 0);
        x.forget();
        x.set(0, 5);
        x.seen(0, 0, 1);
        x.seen(1, 0, 0);
        x.seen(2, 0, 0);
        s.due("all as told", x.unlike(), 0);
        x.seen(0, 23, 0);
        x.seen(1, 23, 1);
        x.seen(2, 0, 1);
        s.due("of all generals", x.unlike(), 3);
    }

    private void parrot() {
        s.says("PARROT, of GENERAL 0 or 1: it HICCUPS an HOUR after him (not in HOUR 0):");
        HiccupPeace x = States.byHours(Check.hours(0, 22), ALL);
        s.due("in hours 1 and 23", x.parrot(0), Check.hours(1, 23));
        HiccupPeace y = States.byHours(Check.hours(23), ALL);
        s.due("behind hour 23 no more, and not in hour 0", y.parrot(0), 0);
        HiccupPeace z = States.byHours(ALL, Check.hours(0, 22, 23));
        s.due("of general 1", z.parrot(1), Check.hours(1));
        s.badBeyond("parrot", 0, 0, 1, 0);
    }

    /** Each way in which the hour ahead and the hour may go for both. */
    private void falseAlarms() {
        s.says("FALSE ALARMS: HOURS in which it does, the other one of these does, and he does not, as bits.");
        for (int way = 0; way < 16; way++) {
            int his = way & 3;
            int other = way >> 2;
            int due = (his & 1) == 1 && (other & 2) == 2 && (his & 2) == 0 ? 1 << 6 : 0;
            s.due("of 0, way " + way, States.byHours(his << 5, other << 5, ALL).parrot(0), due);
            s.due("of 1, way " + way, States.byHours(other << 5, his << 5, ALL).parrot(1), due);
        }
    }

    private void trainedNow() {
        s.says("TRAINED: in how many HOURS GENERAL 2 HICCUPS just as a told one does (or both do not);");
        Random random = new Random(27);
        for (int round = 0; round < 50; round++) {
            int[] hours = {random.nextInt(1 << 24), random.nextInt(1 << 24), random.nextInt(1 << 24)};
            HiccupPeace x = States.byHours(hours);
            s.due("like 0", x.trained(0, 0), 24 - Integer.bitCount(hours[0] ^ hours[2]));
            s.due("like 1", x.trained(1, 0), 24 - Integer.bitCount(hours[1] ^ hours[2]));
        }
        s.due("never like", States.byHours(ALL, 0, 0).trained(0, 0), 0);
        s.due("both never do", States.byHours(ALL, 0, 0).trained(1, 0), 24);
        s.due("both always do", States.byHours(ALL, 0, ALL).trained(0, 0), 24);
    }

    private void trainedDue(String what, HiccupPeace x, int now, int most, int by) {
        s.due(what + ", as it is", x.trained(0, 0), now);
        s.due(what + ", the most", x.trained(0, 1), most);
        s.due(what + ", by", x.trained(0, 2), by);
    }

    private void trainedMost() {
        s.says("the most that could be by moving his MENU on by k HOURS (0 to 23; nothing ahead of it; "
                + "what comes behind HOUR 23 falls away),");
        HiccupPeace x = States.byHours(Check.hours(23), 0);
        Check.type(x, 2, "cf");
        trainedDue("on by 23", x, 22, 24, 23);
        HiccupPeace y = States.byHours(Check.hours(0), 0);
        Check.type(y, 2, "cf");
        trainedDue("on by 0", y, 24, 24, 0);
        HiccupPeace z = States.byHours(0, 0, Check.hours(23));
        trainedDue("on by 1, what falls away does not come round", z, 23, 24, 1);
        HiccupPeace full = States.byHours(Check.hours(5, 7), 0, Check.hours(2, 4, 22));
        trainedDue("a full menu on by 3", full, 24 - 5, 24, 3);
        HiccupPeace w = States.byHours(Check.row(0, 3), 0);
        Check.type(w, 2, "f");
        w.calm(2, 9);
        trainedDue("nothing ahead of it, as calm as he is", w, 20, 24, 4);
        HiccupPeace v = States.byHours(Check.row(2, 3), 0);
        Check.type(v, 2, "f");
        v.calm(2, 3);
        v.does(0, 1);
        // on by 4 he does in hours 1 to 3, and from hour 9 on again
        trainedDue("nothing does what it does", v, 3, 8, 4);
        HiccupPeace last = new HiccupPeace();
        Check.type(last, 2, "c");
        trainedDue("by 23 at most, though by 24 he would be like in all hours", last, 0, 23, 23);
        HiccupPeace fault = States.byHours(Check.hours(9), 0);
        Check.type(fault, 2, "cfx");
        trainedDue("with a fault there is nothing to move", fault, 23, 23, 0);
    }

    private void trainedLeast() {
        s.says("of like ones the least: that k.");
        HiccupPeace x = States.byHours(Check.hours(4, 9), 0);
        Check.type(x, 2, "cf");
        trainedDue("on by 4 or 9", x, 21, 23, 4);
        trainedDue("any is the same", States.byHours(Check.hours(4), 0), 23, 23, 0);
    }

    private void refusals() {
        s.says("Refusals, the first that fits, in the order told at each act: "
                + "BAD -2 (a number not as told, no such thing), NULL, NOT -3 (as told), FULL -4, other FINDINGS.");
        s.bad("type", 3, 'b');
        s.bad("undo", 3);
        s.bad("led", 3, 0);
        s.bad("seen", 0, 24, 0);
        s.bad("sheet", 4, 0, -1);
        s.bad("put", 3, 3, -1, 0);
        s.bad("copy", 3, -1, 4, -1, -1);
        s.found(States.BUSY, 1, "put", 3, 1, -1, 0);
        s.found(States.BUSY, 1, "copy", 3, -1, 0, 9, -1);
        s.found(States.BUSY, 1, "copy", 0, 9, 3, -1, -1);
        s.found(States.BUSY, 3, "put", 0, 1, -1, 0);
        s.found(States.BUSY, 4, "copy", 0, -1, 1, -1, -1);
        s.refused(States.NEW, -3, "undo", 0);
        s.refused(States.FULL, -4, "type", 0, 'b');
        s.says("They change nothing (FINDINGS but count() 8).");
        s.refused(States.BUSY, -2, "calm", 0, 10);
        s.refused(States.BUSY, -3, "led", 0, 23);
        s.refused(States.FULL, -4, "seen", 0, 0, 0);
        s.found(States.FULL, 2, "put", 0, 0, 48, 1);
        s.found(States.FULL, 2, "copy", 0, 40, 3, 0, 9);
        s.says("Where the answer is a long, a refusal -x is the least long and x more;");
        s.due("odds", new HiccupPeace().odds(24, 0, 0), -9223372036854775806L);
        s.bad("odds", 24, 0, 0);
        s.says("where any number is told, it is -100 less x.");
        s.due("does", new HiccupPeace().does(7, 0), -102);
        s.due("-2 may be told", new HiccupPeace().does(6, 0), -2);
        s.bad("does", 7, 0);
    }
}
