import java.util.ArrayList;
import java.util.List;

/** What an object holds, as the row of its answers; some 350 calls, so that an object stays below its 512. */
final class Inventory {
    private static final int[] PLACES = {0, 1, 2, 3, 4, 5, 46, 47, 48};
    private final List<Long> answers = new ArrayList<>();
    private final HiccupPeace x;

    private Inventory(HiccupPeace x) {
        this.x = x;
    }

    private void ask(String act, int... numbers) {
        answers.add(Acts.call(x, act, numbers));
    }

    /** All that the calls tell that change nothing, but for fault(), count() 8 and digest(). */
    static List<Long> asked(HiccupPeace x) {
        Inventory of = new Inventory(x);
        for (int what = 0; what < 8; what++) {
            of.ask("count", what);
        }
        of.askHours();
        of.askPlans();
        return of.answers;
    }

    /** All that is held; the object is of no use behind it. The latest finding comes first. */
    static List<Long> all(HiccupPeace x) {
        Inventory of = new Inventory(x);
        of.ask("count", 8);
        of.ask("digest");
        of.takeSeen();
        of.takeNumbers();
        for (int s = 0; s < 4; s++) {
            of.takeSheet(s);
        }
        for (int g = 0; g < 3; g++) {
            of.takeMenu(g);
        }
        return of.answers;
    }

    private void askHours() {
        for (int g = 0; g < 3; g++) {
            ask("hiccups", g);
            ask("broken", g);
            ask("heard", g, 7);
            ask("fright", g);
            for (int hour = 0; hour < 24; hour++) {
                ask("dish", g, hour);
                ask("level", g, hour);
                ask("led", g, hour);
            }
        }
        ask("judged");
        ask("armistice", 0);
        ask("armistice", 1);
        ask("unlike");
    }

    private void askPlans() {
        for (int g = 0; g < 2; g++) {
            ask("quiet", g, 0, 23, -1);
            ask("quiet", g, 4, 9, -1);
            ask("quiet", g, 4, 9, 1);
            ask("parrot", g);
            for (int what = 0; what < 3; what++) {
                ask("trained", g, what);
            }
        }
        for (int what = 0; what < 2; what++) {
            ask("odds", 0, 7, what);
            ask("odds", 10, 7, what);
            ask("force", 0, 12, what);
            ask("force", 5, 2, what);
        }
    }

    private void takeSeen() {
        int[] marks = {1, 10, 5};
        for (int mark : marks) {
            ask("unlike");
            for (int g = 0; g < 3; g++) {
                ask("fright", g);
            }
            ask("set", 0, mark);
        }
        ask("forget");
    }

    private void takeNumbers() {
        for (int g = 0; g < 3; g++) {
            for (int hour = 0; hour < 24; hour++) {
                ask("dish", g, hour);
            }
            ask("calm", g, 0);
        }
        for (int dish = 0; dish < 7; dish++) {
            ask("does", dish, 0);
            ask("price", dish, 0);
        }
        ask("set", 1, 0);
        ask("set", 2, 0);
    }

    private void takeSheet(int s) {
        int form = 0;
        for (int tried = 0; tried < 3; tried++) {
            // there is never an item 48, so what is found there tells the form
            ask("get", s, tried, 48);
            int found = x.count(8);
            answers.add((long) found);
            form = found == 2 ? tried : form;
        }
        for (int i : PLACES) {
            ask("get", s, form, i);
        }
        ask("lose", s);
    }

    private void takeMenu(int g) {
        ask("fault", g);
        int left = x.undo(g);
        answers.add((long) left);
        while (left > 0) {
            ask("fault", g);
            left = x.undo(g);
        }
    }
}
