/** Promises 1 to 10: a new object, menus and law. */
public final class MenusTest {
    private static final Check check = new Check();

    public static void main(String[] args) {
        promise1NewObject();
        promise2Type();
        promise3Wipe();
        promise4Fault();
        promise5Undo();
        promise6Calm();
        promise7Does();
        promise8Set();
        promise9Price();
        promise10Read();
        check.end();
    }

    private static void promise1NewObject() {
        HiccupPeace x = new HiccupPeace();
        int[] counts = {0, 0, 0, 5, 0, 0, 0, 0, 0};
        for (int what = 0; what < counts.length; what++) {
            check.due("new count " + what, x.count(what), counts[what]);
        }
        for (int g = 0; g < 3; g++) {
            check.due("new fault", x.fault(g), Check.NONE);
            check.due("new wipe", x.wipe(g), 0);
            check.due("new level 0", x.level(g, 0), 3);
            check.due("new level 23", x.level(g, 23), 3);
            check.due("new hiccups", x.hiccups(g), 0);
        }
        for (int s = 0; s < 4; s++) {
            check.due("new lose", x.lose(s), Check.NULL);
        }
        HiccupPeace other = new HiccupPeace();
        x.type(0, 'c');
        x.does(0, 4);
        x.price(1, 77);
        x.calm(1, 9);
        check.due("objects are apart", other.level(0, 0), 3);
        check.due("calm is apart", other.calm(1, 3), 3);
        check.due("prices are apart", other.price(1, 2), 2);
        check.due("does is apart", other.does(0, 0), 0);
    }

    private static void promise2Type() {
        HiccupPeace x = new HiccupPeace();
        for (int n = 1; n <= 24; n++) {
            check.due("type " + n, x.type(1, n % 2 == 0 ? 'b' : 255), n);
        }
        long before = x.digest();
        check.refused("type full", x, before, x.type(1, 'b'), Check.FULL);
        check.refused("type full, 256", x, before, x.type(1, 256), Check.BAD);
        check.refused("type -1", x, before, x.type(0, -1), Check.BAD);
        check.refused("type 256", x, before, x.type(0, 256), Check.BAD);
        for (int g : new int[] {3, -1, Integer.MIN_VALUE, Integer.MAX_VALUE}) {
            check.refused("type of " + g, x, before, x.type(g, 'n'), Check.BAD);
        }
        check.due("type byte 0", x.type(0, 0), 1);
        check.due("menus are apart", x.wipe(2), 0);
    }

    private static void promise3Wipe() {
        HiccupPeace x = Check.typed("bcx", "cc");
        check.due("wipe", x.wipe(0), 3);
        check.due("wipe leaves none", x.wipe(0), 0);
        check.due("wiped fault", x.fault(0), Check.NONE);
        check.due("wiped level", x.level(0, 23), 3);
        check.due("the other menu stays", x.count(1), 2);
        long before = x.digest();
        check.refused("wipe 3", x, before, x.wipe(3), Check.BAD);
        check.refused("wipe -1", x, before, x.wipe(-1), Check.BAD);
    }

    private static void promise4Fault() {
        HiccupPeace x = Check.typed("nbcvfsh", "bNx", "xb");
        check.due("no fault", x.fault(0), Check.NONE);
        check.due("the first fault", x.fault(1), 1);
        check.due("a fault at once", x.fault(2), 0);
        check.due("told with a fault", x.count(1), 0);
        check.due("dish with a fault", x.dish(1, 0), 0);
        x.undo(1);
        check.due("the first fault stays", x.fault(1), 1);
        x.undo(1);
        check.due("mended", x.fault(1), Check.NONE);
        check.due("dish when mended", x.dish(1, 0), 1);
        for (int b = 0; b < 256; b++) {
            HiccupPeace y = new HiccupPeace();
            y.type(0, b);
            check.due("fault of byte " + b, y.fault(0), "nbcvfsh".indexOf(b) >= 0 ? Check.NONE : 0);
        }
        check.due("fault 3", x.fault(3), Check.BAD);
        check.due("fault -1", x.fault(-1), Check.BAD);
    }

    private static void promise5Undo() {
        HiccupPeace x = Check.typed("bc");
        check.due("undo", x.undo(0), 1);
        check.due("what is left", x.dish(0, 0), 1);
        check.due("what is undone", x.dish(0, 1), 0);
        check.due("undo the last", x.undo(0), 0);
        long before = x.digest();
        check.refused("undo none", x, before, x.undo(0), Check.NOT);
        check.refused("undo 3", x, before, x.undo(3), Check.BAD);
        check.refused("undo -1", x, before, x.undo(-1), Check.BAD);
        Check.type(x, 2, "bx");
        check.due("undo with a fault", x.undo(2), 1);
    }

    private static void promise6Calm() {
        HiccupPeace x = new HiccupPeace();
        check.due("calm at first", x.calm(2, 9), 3);
        check.due("calm then", x.calm(2, 0), 9);
        check.due("calm 0", x.level(2, 0), 0);
        check.due("the others stay", x.level(1, 0), 3);
        long before = x.digest();
        check.refused("calm -1", x, before, x.calm(2, -1), Check.BAD);
        check.refused("calm 10", x, before, x.calm(2, 10), Check.BAD);
        check.refused("calm of 3", x, before, x.calm(3, 1), Check.BAD);
        check.refused("calm of -1", x, before, x.calm(-1, 1), Check.BAD);
    }

    private static void promise7Does() {
        int[] first = {0, 1, 3, -4, -9, -1, -2};
        HiccupPeace x = new HiccupPeace();
        for (int dish = 0; dish < 7; dish++) {
            check.due("does at first " + dish, x.does(dish, -9), first[dish]);
            check.due("does then " + dish, x.does(dish, 9), -9);
            check.due("does at last " + dish, x.does(dish, first[dish]), 9);
        }
        long before = x.digest();
        check.refused("does 7", x, before, x.does(7, 0), -102);
        check.refused("does -1", x, before, x.does(-1, 0), -102);
        check.refused("does 10", x, before, x.does(0, 10), -102);
        check.refused("does -10", x, before, x.does(0, -10), -102);
        check.refused("does far", x, before, x.does(Integer.MAX_VALUE, Integer.MIN_VALUE), -102);
    }

    private static void promise8Set() {
        HiccupPeace x = new HiccupPeace();
        check.due("mark", x.set(0, 10), 5);
        check.due("mark 1", x.set(0, 1), 10);
        check.due("law", x.set(1, 2), 0);
        check.due("law 0", x.set(1, 0), 2);
        check.due("forbidden", x.set(2, 126), 0);
        check.due("forbidden 2", x.set(2, 2), 126);
        check.due("mark held", x.count(3), 1);
        check.due("law held", x.count(4), 0);
        check.due("forbidden held", x.count(7), 1);
        long before = x.digest();
        int[][] wrong = {{0, 0}, {0, 11}, {0, -1}, {1, 3}, {1, -1}, {2, 1}, {2, 127}, {2, 128}, {2, -2}, {2, -1},
            {3, 0}, {-1, 0}, {3, 5}, {Integer.MIN_VALUE, 1}, {2, Integer.MIN_VALUE}};
        for (int[] w : wrong) {
            check.refused("set " + w[0] + " " + w[1], x, before, x.set(w[0], w[1]), Check.BAD);
        }
    }

    private static void promise9Price() {
        int[] first = {0, 2, 9, 3, 1, 0, 5};
        HiccupPeace x = Check.typed("nbcvfsh");
        check.due("prices of all", x.count(6), 20);
        for (int dish = 0; dish < 7; dish++) {
            check.due("price at first " + dish, x.price(dish, 99), first[dish]);
            check.due("price then " + dish, x.price(dish, 0), 99);
        }
        check.due("prices of none", x.count(6), 0);
        long before = x.digest();
        check.refused("price 7", x, before, x.price(7, 0), Check.BAD);
        check.refused("price -1", x, before, x.price(-1, 0), Check.BAD);
        check.refused("price 100", x, before, x.price(0, 100), Check.BAD);
        check.refused("price below 0", x, before, x.price(0, -1), Check.BAD);
    }

    private static void promise10Read() {
        HiccupPeace x = Check.typed("xxxxx", "", "bbb");
        x.sheet(0, 2, 9);
        int[] items = {6, 5, 4, 3, 2, 1, 0, 7, 1};
        for (int i = 0; i < items.length; i++) {
            x.put(0, 2, i, items[i]);
        }
        check.due("read up to what is no dish", x.read(0, 0), 7);
        check.due("the fault is gone", x.fault(0), Check.NONE);
        for (int hour = 0; hour < 7; hour++) {
            check.due("read dish", x.dish(0, hour), 6 - hour);
        }
        check.due("nothing behind it", x.dish(0, 8), 0);
        check.due("bytes behind it", x.type(0, 'b'), 8);
        x.put(0, 2, 0, -1);
        check.due("read none", x.read(0, 2), 0);
        check.due("read none leaves none", x.wipe(2), 0);
        x.sheet(1, 0, 48);
        check.due("read 24 at most", x.read(1, 1), 24);
        check.due("read 24 is full", x.type(1, 'b'), Check.FULL);
        x.sheet(1, 1, 0);
        check.due("read an empty sheet", x.read(1, 1), 0);
        long before = x.digest();
        check.refused("read sheet 4", x, before, x.read(4, 0), Check.BAD);
        check.refused("read sheet -1", x, before, x.read(-1, 0), Check.BAD);
        check.refused("read for 3", x, before, x.read(1, 3), Check.BAD);
        check.refused("BAD ahead of NULL", x, before, x.read(3, 3), Check.BAD);
        check.due("no finding yet", x.count(8), 0);
        check.refused("read a lost one", x, before, x.read(3, 0), Check.NULL);
        check.due("the finding", x.count(8), 1);
    }
}
