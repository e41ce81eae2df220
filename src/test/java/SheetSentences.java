import java.math.BigInteger;
import java.util.function.Supplier;

/** Promises 28 to 35, sentence by sentence. */
final class SheetSentences {
    private static final int LEAST = Integer.MIN_VALUE, GREATEST = Integer.MAX_VALUE;
    private final Sentences s;

    SheetSentences(Sentences s) {
        this.s = s;
    }

    void run() {
        sheet();
        sheetRefused();
        lose();
        put();
        putRefused();
        get();
        copy();
        copyRefused();
        copyIndex();
        write();
        count();
        countMore();
        digest();
    }

    private void sheet() {
        s.in("Promise 28");
        s.says("A SHEET is a new row of a FORM with n items: n.");
        for (int sheet = 0; sheet < 4; sheet++) {
            for (int form = 0; form < 3; form++) {
                HiccupPeace x = States.full();
                for (int n : new int[] {0, 1, 47, 48}) {
                    s.due("n", x.sheet(sheet, form, n), n);
                    s.due("its last item", x.get(sheet, form, n - 1), n == 0 ? LEAST : 0);
                    s.due("its first item", x.get(sheet, form, 0), n == 0 ? LEAST : 0);
                    s.due("no item behind it", x.get(sheet, form, n), LEAST);
                    s.due("which is INDEX", x.count(8), 2);
                    x.put(sheet, form, 0, 5);
                    x.put(sheet, form, n - 1, 5);
                }
                s.due("how many", x.lose(sheet), 48);
                s.due("a new one where one was lost", x.sheet(sheet, form, 48), 48);
                s.due("has items of 0", x.get(sheet, form, 47), 0);
                s.due("the next one stays", x.lose((sheet + 1) % 4), 48);
            }
        }
    }

    private void sheetRefused() {
        s.says("BAD: SHEET, FORM, above 48;");
        for (int n : new int[] {0, 48, -1, LEAST}) {
            s.badBeyond("sheet", 0, 0, 3, 0, 0, n);
            s.badBeyond("sheet", 1, 0, 2, 0, 0, n);
        }
        s.badAbove("sheet", 2, 48, 0, 0, 0);
        s.badAbove("sheet", 2, 48, 3, 2, 0);
        s.says("SIZE.");
        for (Supplier<HiccupPeace> state : States.ALL) {
            s.found(state, 5, "sheet", 0, 0, -1);
            s.found(state, 5, "sheet", 3, 2, LEAST);
        }
    }

    private void lose() {
        s.in("Promise 29");
        s.says("It is LOST: how many items it had.");
        for (int sheet = 0; sheet < 4; sheet++) {
            for (int n : new int[] {0, 1, 48}) {
                HiccupPeace x = new HiccupPeace();
                x.sheet(sheet, 1, n);
                x.sheet((sheet + 1) % 4, 1, 2);
                s.due("it had", x.lose(sheet), n);
                s.due("it is lost", x.lose(sheet), Check.NULL);
                s.due("the next one is not", x.lose((sheet + 1) % 4), 2);
            }
        }
        HiccupPeace busy = States.busy();
        busy.lose(0);
        itemsDue("the shorts stay", busy, 1, 1, 300, 1, -32768, 5);
        itemsDue("the ints stay", busy, 2, 2, LEAST, 4, 70000);
        s.due("what went well is no finding", busy.count(8), 5);
        s.says("BAD;");
        s.badBeyond("lose", 0, 0, 3, 0);
        s.says("NULL.");
        s.found(States.BUSY, 1, "lose", 3);
        for (int sheet = 0; sheet < 4; sheet++) {
            s.found(States.NEW, 1, "lose", sheet);
        }
    }

    private void put() {
        s.in("Promise 30");
        s.says("Item i, treated as of a FORM, becomes v (the lowest bits that it has): 1.");
        int[] values = {0, 1, -1, 127, 128, -128, -129, 255, 256, 32767, 32768, -32768, -32769, 65535, 65536, LEAST,
            GREATEST};
        for (int form = 0; form < 3; form++) {
            HiccupPeace x = new HiccupPeace();
            x.sheet(2, form, 48);
            for (int v : values) {
                int held = form == 0 ? (byte) v : form == 1 ? (short) v : v;
                for (int i : new int[] {0, 47}) {
                    s.due("put " + v, x.put(2, form, i, v), 1);
                    s.due("held of " + v, x.get(2, form, i), held);
                }
                s.due("the item behind", x.get(2, form, 1), 0);
                s.due("the item ahead", x.get(2, form, 46), 0);
            }
        }
    }

    private void putRefused() {
        s.says("BAD;");
        s.badBeyond("put", 0, 0, 3, 0, 0, 0, 1);
        s.badBeyond("put", 1, 0, 2, 0, 0, 0, 1);
        s.bad("put", 4, 0, -1, 1);
        s.bad("put", 3, 3, 48, 1);
        s.says("NULL;");
        for (int form = 0; form < 3; form++) {
            s.found(States.BUSY, 1, "put", 3, form, 0, 1);
            s.found(States.NEW, 1, "put", form, form, -1, 1);
        }
        s.says("CAST;");
        for (int form = 0; form < 3; form++) {
            s.found(States.BUSY, 3, "put", form, (form + 1) % 3, 1, 1);
            s.found(States.FULL, 3, "put", form, (form + 2) % 3, 48, 1);
            s.found(States.FULL, 3, "put", form, (form + 2) % 3, -1, 1);
        }
        s.says("INDEX.");
        for (int form = 0; form < 3; form++) {
            for (int i : new int[] {-1, 48, LEAST, GREATEST}) {
                s.found(States.FULL, 2, "put", form, form, i, 1);
            }
            s.found(States.BUSY, 2, "put", form, form, 5 - form, 1);
            int each = form;
            s.found(() -> emptySheet(each), 2, "put", 1, form, 0, 1);
        }
    }

    private static HiccupPeace emptySheet(int form) {
        HiccupPeace x = new HiccupPeace();
        x.sheet(1, form, 0);
        return x;
    }

    private void get() {
        s.in("Promise 31");
        s.says("Item i of it.");
        HiccupPeace x = States.busy();
        int[][] items = {{6, 2, -1, 127, -128}, {300, 1, -32768, 5}, {LEAST, 4, 70000}};
        for (int form = 0; form < 3; form++) {
            for (int i = 0; i < items[form].length; i++) {
                s.due("item " + i, x.get(form, form, i), items[form][i]);
            }
        }
        s.due("an item that is the least int is no finding", x.count(8), 5);
        s.says("BAD: the least int;");
        s.due("as a number", x.get(4, 0, 0), -2147483648);
        s.badBeyond("get", 0, 0, 3, 0, 0, 0);
        s.badBeyond("get", 1, 0, 2, 0, 0, 0);
        s.bad("get", 3, 3, -1);
        s.says("so are NULL, CAST, INDEX (count() 8 tells).");
        for (int form = 0; form < 3; form++) {
            s.found(States.BUSY, 1, "get", 3, form, -1);
            s.found(States.NEW, 1, "get", form, form, 0);
            s.found(States.BUSY, 3, "get", form, (form + 1) % 3, 9);
            s.found(States.FULL, 3, "get", form, (form + 2) % 3, 0);
            for (int i : new int[] {-1, 48, LEAST, GREATEST}) {
                s.found(States.FULL, 2, "get", form, form, i);
            }
            s.found(States.BUSY, 2, "get", form, form, 5 - form);
            int each = form;
            s.found(() -> emptySheet(each), 2, "get", 1, form, 0);
        }
    }

    private static HiccupPeace counted(int form, int... sizes) {
        HiccupPeace x = new HiccupPeace();
        for (int sheet = 0; sheet < sizes.length; sheet++) {
            x.sheet(sheet, form, sizes[sheet]);
            for (int i = 0; i < sizes[sheet]; i++) {
                x.put(sheet, form, i, 10 * sheet + i + 1);
            }
        }
        return x;
    }

    private void itemsDue(String what, HiccupPeace x, int sheet, int form, int... items) {
        for (int i = 0; i < items.length; i++) {
            s.due(what + ", item " + i, x.get(sheet, form, i), items[i]);
        }
    }

    private void copy() {
        s.in("Promise 32");
        s.says("n items of SHEET s, from i on, come to SHEET t (perhaps s, as they were), from j on: 1.");
        for (int form = 0; form < 3; form++) {
            HiccupPeace x = counted(form, 5, 4);
            s.due("two", x.copy(0, 3, 1, 0, 2), 1);
            itemsDue("two", x, 1, form, 4, 5, 13, 14);
            itemsDue("from where", x, 0, form, 1, 2, 3, 4, 5);
            s.due("to the end", x.copy(0, 0, 1, 3, 1), 1);
            itemsDue("to the end", x, 1, form, 4, 5, 13, 1);
            s.due("all", x.copy(1, 0, 0, 0, 4), 1);
            itemsDue("all", x, 0, form, 4, 5, 13, 1, 5);
            HiccupPeace y = counted(form, 5);
            s.due("on within", y.copy(0, 0, 0, 1, 4), 1);
            itemsDue("on within", y, 0, form, 1, 1, 2, 3, 4);
            HiccupPeace z = counted(form, 5);
            s.due("back within", z.copy(0, 2, 0, 0, 3), 1);
            itemsDue("back within", z, 0, form, 3, 4, 5, 4, 5);
            s.due("onto itself", z.copy(0, 0, 0, 0, 5), 1);
            itemsDue("onto itself", z, 0, form, 3, 4, 5, 4, 5);
            HiccupPeace w = counted(form, 0, 2);
            s.due("none of an empty one", w.copy(0, 0, 1, 2, 0), 1);
            s.due("none to an empty one", w.copy(1, 2, 0, 0, 0), 1);
            s.due("none of an empty one to itself", w.copy(0, 0, 0, 0, 0), 1);
            itemsDue("none", w, 1, form, 11, 12);
            s.due("none is no finding", w.count(8), 0);
            w.sheet(2, form, 48);
            w.sheet(3, form, 48);
            w.put(2, form, 47, 9);
            s.due("all of 48", w.copy(2, 0, 3, 0, 48), 1);
            s.due("the last of 48", w.get(3, form, 47), 9);
        }
    }

    private void copyRefused() {
        s.says("BAD: the SHEETS;");
        s.badBeyond("copy", 0, 0, 3, 0, 0, 0, 0, 0);
        s.badBeyond("copy", 2, 0, 3, 0, 0, 0, 0, 0);
        s.bad("copy", 4, -1, 3, 99, -1);
        s.bad("copy", 3, -1, 4, 99, -1);
        s.says("NULL: s, t;");
        for (int sheet = 0; sheet < 3; sheet++) {
            s.found(States.BUSY, 1, "copy", 3, 0, sheet, 0, 0);
            s.found(States.BUSY, 1, "copy", sheet, 0, 3, 0, 0);
            s.found(States.BUSY, 1, "copy", 3, -1, sheet, 99, -1);
            s.found(States.BUSY, 1, "copy", sheet, -1, 3, 99, -1);
        }
        s.found(States.BUSY, 1, "copy", 3, 0, 3, 0, 0);
        s.found(States.NEW, 1, "copy", 0, 0, 1, 0, 0);
        s.says("STORE;");
        for (int form = 0; form < 3; form++) {
            s.found(States.FULL, 4, "copy", form, 0, (form + 1) % 3, 0, 48);
            s.found(States.FULL, 4, "copy", form, 0, (form + 2) % 3, 0, 0);
            s.found(States.BUSY, 4, "copy", form, -1, (form + 1) % 3, 0, 1);
            s.found(States.BUSY, 4, "copy", form, 0, (form + 2) % 3, 99, 1);
            s.found(States.BUSY, 4, "copy", form, 0, (form + 2) % 3, 0, -1);
        }
    }

    private void copyIndex() {
        s.says("INDEX: below 0, not so many.");
        int[][] wrong = {{-1, 0, 1}, {0, -1, 1}, {0, 0, -1}, {-1, 0, 0}, {0, -1, 0}, {0, 0, 6}, {1, 0, 5}, {0, 1, 4},
            {5, 0, 1}, {0, 4, 1}, {6, 0, 0}, {0, 5, 0}, {GREATEST, 0, 1}, {0, GREATEST, 1}, {0, 0, GREATEST},
            {1, 1, GREATEST}, {GREATEST, GREATEST, GREATEST}, {LEAST, 0, 1}, {0, LEAST, 1}, {0, 0, LEAST},
            {LEAST, LEAST, LEAST}, {GREATEST, 0, LEAST}, {1, 1, LEAST}};
        for (int form = 0; form < 3; form++) {
            int each = form;
            for (int[] w : wrong) {
                s.found(() -> counted(each, 5, 4), 2, "copy", 0, w[0], 1, w[1], w[2]);
            }
            s.found(() -> counted(each, 5, 4), 2, "copy", 0, 1, 0, 0, 5);
            s.found(() -> counted(each, 0, 4), 2, "copy", 0, 0, 1, 0, 1);
            s.found(() -> counted(each, 0, 4), 2, "copy", 1, 0, 0, 0, 1);
        }
        s.found(States.FULL, 2, "copy", 0, 1, 3, 0, 48);
        s.found(States.FULL, 2, "copy", 0, 0, 3, 1, 48);
        s.found(States.FULL, 2, "copy", 0, 0, 3, 0, 49);
    }

    private void write() {
        s.in("Promise 33");
        s.says("LEVELS of HOURS 0 on come to a SHEET from item 0 on, as many as there are items, 24 at most: how many.");
        for (int form = 0; form < 3; form++) {
            for (int size : new int[] {0, 1, 23, 24, 25, 48}) {
                HiccupPeace x = Check.typed("c", "fc" + "n".repeat(21) + "v", "bx");
                x.sheet(0, form, size);
                for (int i = 0; i < size; i++) {
                    x.put(0, form, i, 77);
                }
                int n = Math.min(24, size);
                s.due("how many of " + size, x.write(1, 0), n);
                for (int i = 0; i < size; i++) {
                    int level = i == 0 || i == 23 ? 0 : 3;
                    s.due("item " + i, x.get(0, form, i), i < 24 ? level : 77);
                }
                s.due("no item more", x.get(0, form, size), LEAST);
                s.due("of general 0", x.write(0, 0), n);
                s.due("his level", x.get(0, form, 0), size == 0 ? LEAST : 6);
                s.due("of one with a fault", x.write(2, 0), n);
                s.due("his level", x.get(0, form, 0), size == 0 ? LEAST : 3);
            }
        }
        s.says("BAD;");
        s.badBeyond("write", 0, 0, 2, 0, 0);
        s.badBeyond("write", 0, 0, 2, 0, 3);
        s.badBeyond("write", 1, 0, 3, 2, 0);
        s.says("NULL.");
        for (int g = 0; g < 3; g++) {
            s.found(States.BUSY, 1, "write", g, 3);
            s.found(States.NEW, 1, "write", g, 0);
        }
    }

    private void count() {
        s.in("Promise 34");
        s.says("0 to 2 DISHES told of GENERALS (0 with a FAULT),");
        for (int g = 0; g < 3; g++) {
            HiccupPeace x = new HiccupPeace();
            for (int n = 1; n <= 24; n++) {
                x.type(g, n % 2 == 0 ? 'n' : 'h');
                s.due("told", x.count(g), n);
            }
            s.due("of the next one", x.count((g + 1) % 3), 0);
            x.undo(g);
            x.type(g, 'x');
            s.due("with a fault", x.count(g), 0);
        }
        s.says("3 MARK,");
        s.due("at first", new HiccupPeace().count(3), 5);
        s.due("of the busy one", States.busy().count(3), 6);
        s.says("4 LAW,");
        s.due("at first", new HiccupPeace().count(4), 0);
        s.due("of the busy one", States.busy().count(4), 2);
        s.says("5 SEEN,");
        s.due("at first", new HiccupPeace().count(5), 0);
        s.due("of the busy one", States.busy().count(5), 3);
        s.due("of the full one", States.full().count(5), 8);
    }

    private void countMore() {
        s.says("6 all PRICES of DISHES told of GENERALS 0 and 1,");
        HiccupPeace x = Check.typed("nbcvfsh", "cc", "cccc");
        s.due("by the prices at first", x.count(6), 20 + 18);
        x.price(0, 99);
        s.due("nothing, where it is told", x.count(6), 99 + 20 + 18);
        x.type(0, 'x');
        s.due("with a fault none of his", x.count(6), 18);
        x.type(1, 'x');
        s.due("with two", x.count(6), 0);
        HiccupPeace y = Check.typed("h".repeat(24), "h".repeat(24), "h".repeat(24));
        y.price(6, 99);
        s.due("the most", y.count(6), 48 * 99);
        s.says("7 how many DISHES are FORBIDDEN,");
        HiccupPeace z = new HiccupPeace();
        s.due("at first", z.count(7), 0);
        for (int v = 0; v <= 126; v += 2) {
            z.set(2, v);
            s.due("by " + v, z.count(7), Integer.bitCount(v));
        }
        s.says("8 the number of the latest FINDING (0 before any).");
        HiccupPeace w = new HiccupPeace();
        s.due("before any", w.count(8), 0);
        w.sheet(0, 0, -1);
        s.due("SIZE", w.count(8), 5);
        w.sheet(0, 0, 1);
        w.lose(4);
        s.due("neither what went well nor BAD is one", w.count(8), 5);
        w.put(0, 1, 0, 0);
        s.due("CAST", w.count(8), 3);
        w.get(0, 0, 1);
        s.due("INDEX", w.count(8), 2);
        w.sheet(1, 1, 1);
        w.copy(0, 0, 1, 0, 1);
        s.due("STORE", w.count(8), 4);
        w.undo(0);
        s.due("NOT is none", w.count(8), 4);
        w.write(0, 3);
        s.due("NULL", w.count(8), 1);
        s.says("BAD.");
        s.badBeyond("count", 0, 0, 8, 0);
    }

    /** By numbers without an end, cut to 64 bits at last. */
    private static long digestOf(HiccupPeace x) {
        BigInteger h = BigInteger.valueOf(17);
        for (String row : Acts.DIGESTED) {
            long answer = Acts.call(x, Acts.name(row), Acts.numbers(row));
            h = h.multiply(BigInteger.valueOf(31)).add(BigInteger.valueOf(answer));
        }
        return h.longValue();
    }

    /** Bread alone leads general 1 to 9 in so many hours as are told, or in none of them. */
    private static HiccupPeace byBread(int calm) {
        HiccupPeace x = States.byLevels(9, calm, 6);
        x.set(0, 9);
        x.set(2, 124);
        return x;
    }

    /** The other one hiccups in one hour alone; by bread he falls by one each hour, from 9 to just below the mark. */
    private static HiccupPeace downByOne(int general, int hour, int mark) {
        int[] hours = {0, 0};
        hours[1 - general] = Check.hours(hour);
        HiccupPeace x = States.byHours(hours);
        x.wipe(general);
        x.calm(general, 9);
        x.does(1, -1);
        x.set(0, mark);
        x.set(2, 124);
        return x;
    }

    private void digest() {
        s.in("Promise 35");
        s.says("h is 17; h becomes 31 h and each of: count() 0 to 7; "
                + "of GENERALS fault(), hiccups(), level() at 0, 9, 23, heard(it, 7), fright();");
        HiccupPeace deep = Check.typed("bcnvbbbbbcvbbbbbbbbbbbbv", "xb", "vvbbccbbhbvbbccfb");
        s.due("menus all day", deep.digest(), digestOf(deep));
        HiccupPeace seen = States.full();
        s.due("what was seen", seen.digest(), digestOf(seen));
        s.says("broken() 0 to 2, judged(), armistice() 0, 1, odds(4, 5), above, below,");
        for (int law = 0; law < 3; law++) {
            HiccupPeace x = States.byHours(Check.hours(3, 4, 9, 15), Check.hours(4, 8, 10, 20), Check.hours(3, 9));
            x.set(1, law);
            s.due("hours by law " + law, x.digest(), digestOf(x));
        }
        s.says("quiet() of GENERALS 0, 1 from 2 to 9, NONE and 0, force(3, 6, 0 and 1),");
        for (int calm = 1; calm <= 4; calm++) {
            HiccupPeace x = byBread(calm);
            s.due("in six hours from " + calm, x.force(3, 6, 0), calm >= 3 ? 1 : 0);
            s.due("by bread from " + calm, x.digest(), digestOf(x));
        }
        HiccupPeace dear = Check.typed("cccccccccccc", "vccccccccccc");
        for (int dish = 0; dish < 7; dish++) {
            dear.price(dish, 3 + 5 * dish);
        }
        s.due("at a cost", dear.digest(), digestOf(dear));
        for (int g = 0; g < 2; g++) {
            HiccupPeace nine = downByOne(g, 9, 2);
            s.due("bread first, for hour 9", nine.quiet(g, 2, 9, 0), 1);
            s.due("up to hour 9", nine.digest(), digestOf(nine));
            HiccupPeace ten = downByOne(g, 10, 1);
            s.due("nothing first, as hour 10 is beyond it", ten.quiet(g, 2, 9, 0), 0);
            s.due("not up to hour 10", ten.digest(), digestOf(ten));
        }
        HiccupPeace two = States.byHours(Check.ALL_HOURS, Check.hours(2));
        two.set(2, 126);
        s.due("behind hour 2", two.force(3, 6, 0), 1);
        s.due("war from hour 3 on", two.digest(), digestOf(two));
        s.says("unlike(), parrot() 0, 1, trained(0, 0 to 2);");
        HiccupPeace busy = States.busy();
        s.due("busy", busy.digest(), digestOf(busy));
        HiccupPeace birds = States.byHours(Check.hours(2, 7), Check.hours(3, 6), Check.hours(0, 5));
        birds.seen(0, 2, 0);
        s.due("birds and training", birds.digest(), digestOf(birds));
        s.says("as longs that wrap.");
        HiccupPeace x = new HiccupPeace();
        s.due("a new one", x.digest(), digestOf(x));
        s.due("once more, as it changes nothing", x.digest(), digestOf(x));
        for (Supplier<HiccupPeace> state : States.ALL) {
            HiccupPeace y = state.get();
            y.digest();
            s.same("nothing is changed by it", Inventory.all(y), Inventory.all(state.get()));
        }
    }
}
