import java.util.List;
import java.util.function.Supplier;

/** Objects to begin from: new ones, some with a little of everything, some that are full, some with told hiccups. */
final class States {
    static final Supplier<HiccupPeace> NEW = HiccupPeace::new, BUSY = States::busy, FULL = States::full;
    static final List<Supplier<HiccupPeace>> ALL = List.of(NEW, BUSY, FULL);
    static final String WHOLE_DAY = "nbcvfshhsfvcbnbbccvvffss";

    private States() {
    }

    static String name(Supplier<HiccupPeace> state) {
        return state == NEW ? "new" : state == BUSY ? "busy" : state == FULL ? "full" : "as told";
    }

    /** Letters, a fault, numbers that are not as at first, sheets of each form and one that is lost, a finding. */
    static HiccupPeace busy() {
        HiccupPeace x = Check.typed("bccsvbh", "cnbxc", "ccs");
        x.calm(0, 4);
        x.calm(1, 7);
        x.calm(2, 1);
        x.does(1, 2);
        x.does(0, -1);
        x.set(0, 6);
        x.set(1, 2);
        x.set(2, 2 + 32);
        x.price(2, 50);
        x.price(0, 3);
        x.seen(0, 1, 1);
        x.seen(1, 2, 0);
        x.seen(2, 0, 1);
        putAll(x, 0, 0, 6, 2, -1, 127, -128);
        putAll(x, 1, 1, 300, 1, -32768, 5);
        putAll(x, 2, 2, Integer.MIN_VALUE, 4, 70000);
        x.sheet(3, 0, -1);
        return x;
    }

    /** Full menus (one with a fault at its end), as many seen as there may be, sheets of 48 items. */
    static HiccupPeace full() {
        HiccupPeace x = Check.typed(WHOLE_DAY, WHOLE_DAY.substring(1) + "x", WHOLE_DAY);
        for (int k = 0; k < 8; k++) {
            x.seen(k % 3, 3 * k, k % 2);
        }
        for (int s = 0; s < 4; s++) {
            x.sheet(s, s % 3, 48);
            x.put(s, s % 3, 0, 3 + s);
            x.put(s, s % 3, 1, -7);
            x.put(s, s % 3, 47, 60 + s);
        }
        return x;
    }

    static void putAll(HiccupPeace x, int s, int form, int... items) {
        x.sheet(s, form, items.length);
        for (int i = 0; i < items.length; i++) {
            x.put(s, form, i, items[i]);
        }
    }

    /** Each general hiccups in the told hours and in no other one; his level is 9 in them, else 0. */
    static HiccupPeace byHours(int... hoursOfEach) {
        HiccupPeace x = new HiccupPeace();
        x.does(2, 9);
        for (int g = 0; g < hoursOfEach.length; g++) {
            for (int hour = 0; hour < 24; hour++) {
                x.type(g, (hoursOfEach[g] >> hour & 1) == 1 ? 'c' : 'f');
            }
        }
        return x;
    }

    /** Levels that stay as they are told all day. */
    static HiccupPeace byLevels(int... levels) {
        HiccupPeace x = new HiccupPeace();
        for (int g = 0; g < levels.length; g++) {
            x.calm(g, levels[g]);
        }
        return x;
    }
}
