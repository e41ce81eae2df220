import java.util.List;
import java.util.function.Supplier;

/** What the document says of the class as a whole: what it is, for how many calls, and what is free. */
final class WholeSentences {
    private static final int NONE = Check.NONE, MOST_CALLS = 512;
    private final Sentences s;

    WholeSentences(Sentences s) {
        this.s = s;
    }

    void run() {
        s.in("What it is");
        treaty();
        menus();
        hiccups();
        judgement();
        plans();
        whatWasSeen();
        manyCalls();
        s.in("Not promised");
        free();
    }

    private void treaty() {
        s.says("Peace by hiccups: a treaty that holds as long as two old generals do not hiccup in one hour;");
        HiccupPeace x = States.byHours(Check.hours(2, 5), Check.hours(3, 6), Check.hours(2, 3, 5, 6));
        s.due("it holds", x.judged(), NONE);
        HiccupPeace y = States.byHours(Check.hours(2, 5), Check.hours(3, 5));
        s.due("it holds no more", y.judged(), 5);
    }

    private void menus() {
        s.says("what each is given hour by hour as a text, by which his tension rises or falls;");
        HiccupPeace x = Check.typed("cvb", "bbb", "hsf");
        int[][] levels = {{6, 2, 3, 3}, {4, 5, 6, 6}, {1, 0, 0, 0}};
        for (int g = 0; g < 3; g++) {
            for (int hour = 0; hour < 4; hour++) {
                s.due("level of " + g + " in hour " + hour, x.level(g, hour), levels[g][hour]);
            }
        }
    }

    private void hiccups() {
        s.says("who hiccups when, by levels or by draws;");
        HiccupPeace x = Check.typed("ccs");
        s.due("by levels", x.hiccups(0), Check.ALL_HOURS - Check.hours(2));
        s.due("by draws never asleep", x.heard(0, 7) & Check.hours(2), 0);
        s.isTrue("by draws not as by levels", x.heard(0, 7) != x.hiccups(0) && x.heard(0, 7) != 0);
    }

    private void judgement() {
        s.says("treaties by told law, the hour in which the peace is broken, the longest armistice;");
        HiccupPeace x = States.byHours(Check.hours(1, 8), Check.hours(2, 8));
        int[][] due = {{8, 9, 15}, {1, 9, 15}, {2, 9, 15}};
        for (int law = 0; law < 3; law++) {
            x.set(1, law);
            s.due("law " + law + ", broken", x.judged(), due[law][0]);
            s.due("law " + law + ", armistice from", x.armistice(0), due[law][1]);
            s.due("law " + law + ", armistice of", x.armistice(1), due[law][2]);
        }
    }

    private void plans() {
        s.says("how likely it holds;");
        HiccupPeace x = States.byLevels(8, 8);
        s.due("3 of 4, above", x.odds(0, 1, 0), 3);
        s.due("3 of 4, below", x.odds(0, 1, 1), 4);
        s.says("the cheapest menu by which it does;");
        x.price(5, 2);
        s.due("a fright is cheaper than sleep", x.quiet(0, 0, 0, 0), 4);
        s.due("its cost", x.quiet(0, 0, 0, NONE), 1);
        s.says("whether one side can break it, whatever the other one serves;");
        s.due("it cannot", x.force(0, 12, 0), 0);
        x.set(2, 126);
        s.due("it can", x.force(0, 12, 0), 1);
    }

    private void whatWasSeen() {
        s.says("a fright found by the hours in which he was heard;");
        HiccupPeace x = States.byLevels(9, 9);
        x.seen(0, 4, 1);
        x.seen(0, 6, 0);
        s.due("in hour 5 or 6", x.fright(0), Check.hours(5, 6));
        s.says("a parrot's false alarms;");
        s.due("in hour 3", States.byHours(Check.hours(2), Check.hours(3)).parrot(0), Check.hours(3));
        s.says("a third one in training;");
        s.due("in all but one", States.byHours(Check.hours(2), 0, Check.hours(2, 9)).trained(0, 0), 23);
        s.says("each hiccup led to the dish it goes back to.");
        HiccupPeace y = Check.typed("nbcn");
        int hour = y.led(0, 23);
        s.due("the hour", hour, 2);
        s.due("the dish", y.dish(0, hour), 2);
    }

    /** Calls that come back to where they began, so that the last call must answer as the first would have. */
    private static final List<String> ROUND = List.of(
            "type 2 120", "undo 2", "type 2 98", "undo 2", "seen 1 5 1", "seen 0 23 0", "forget", "calm 0 9", "calm 0 3",
            "does 4 9", "does 4 -9", "set 0 10", "set 0 5", "set 1 2", "set 1 0", "set 2 126", "set 2 0", "price 6 99",
            "price 6 5", "sheet 3 2 48", "put 3 2 47 -1", "write 0 3", "copy 3 0 3 24 24", "read 3 2", "wipe 2",
            "lose 3", "lose 3", "get 0 0 0", "put 0 3 0 0", "quiet 0 0 23 23", "quiet 1 0 23 -1", "force 0 12 1",
            "odds 17 7 0", "heard 2 -1", "trained 1 2", "fright 2", "digest");

    private static HiccupPeace used(int calls) {
        HiccupPeace x = new HiccupPeace();
        for (int k = 0; k < calls; k++) {
            String row = ROUND.get(k % ROUND.size());
            Acts.call(x, Acts.name(row), Acts.numbers(row));
        }
        return x;
    }

    private void manyCalls() {
        s.says("An object is used for at most 512 calls after it has been made; what later calls answer is free.");
        int rounds = (MOST_CALLS - 1) / ROUND.size() * ROUND.size();
        for (String row : Acts.DIGESTED) {
            long due = Acts.call(new HiccupPeace(), Acts.name(row), Acts.numbers(row));
            s.due(row + " behind many calls", Acts.call(used(rounds), Acts.name(row), Acts.numbers(row)), due);
        }
        HiccupPeace x = new HiccupPeace();
        long digest = x.digest();
        for (int k = 2; k <= MOST_CALLS; k++) {
            s.due("call " + k, x.digest(), digest);
        }
        HiccupPeace y = new HiccupPeace();
        for (int k = 1; k <= MOST_CALLS; k++) {
            s.due("finding " + k, y.sheet(k % 4, 0, -k), Check.SIZE);
        }
        HiccupPeace z = new HiccupPeace();
        for (int k = 1; k <= MOST_CALLS; k++) {
            s.due("sheet " + k, z.sheet(k % 4, k % 3, k % 49), k % 49);
        }
    }

    private void free() {
        s.leavesFree("How the state is held inside the object is free, as are the speed of each call, "
                + "the text of toString and the behaviour of equals and hashCode.");
        s.leavesFree("Use of one object from several threads at once is not promised to be safe.");
        s.says("Nothing is promised beyond the answers and state changes described above,");
        // what is told of the state changes leaves none to a call that only asks
        for (Supplier<HiccupPeace> state : States.ALL) {
            HiccupPeace x = state.get();
            for (String row : Acts.DIGESTED) {
                Acts.call(x, Acts.name(row), Acts.numbers(row));
            }
            s.same("asking changes nothing of a " + States.name(state) + " one",
                    Inventory.all(x), Inventory.all(state.get()));
        }
        s.leavesFree("and nothing about an object after its 512th call.");
    }
}
