/** Promises 1 to 10, sentence by sentence. */
final class MenuSentences {
    private static final int NONE = Check.NONE, NOT = Check.NOT, FULL = Check.FULL;
    private final Sentences s;

    MenuSentences(Sentences s) {
        this.s = s;
    }

    void run() {
        newObject();
        type();
        typeRefused();
        wipe();
        fault();
        undo();
        calm();
        does();
        setMark();
        setLaw();
        setForbidden();
        price();
        read();
        readUpToWhat();
        readRefused();
    }

    private void newObject() {
        s.in("Promise 1");
        s.says("Empty MENUS;");
        for (int g = 0; g < 3; g++) {
            HiccupPeace x = new HiccupPeace();
            s.due("dishes told", x.count(g), 0);
            s.due("fault", x.fault(g), NONE);
            s.due("undo", x.undo(g), NOT);
            s.due("wipe", x.wipe(g), 0);
            s.due("the first byte", x.type(g, 'b'), 1);
        }
        s.says("all SHEETS are LOST.");
        for (int sheet = 0; sheet < 4; sheet++) {
            s.found(States.NEW, 1, "lose", sheet);
            s.found(States.NEW, 1, "get", sheet, sheet % 3, 0);
        }
        HiccupPeace x = States.busy();
        s.same("each object is by itself", Inventory.all(new HiccupPeace()), Inventory.all(new HiccupPeace()));
        s.due("the busy one is", x.wipe(0), 7);
    }

    private void type() {
        s.in("Promise 2");
        s.says("A byte (0 to 255) comes behind a MENU: how many.");
        for (int g = 0; g < 3; g++) {
            HiccupPeace x = new HiccupPeace();
            s.due("a letter", x.type(g, 'b'), 1);
            s.due("another one", x.type(g, 'c'), 2);
            s.due("the one ahead", x.dish(g, 0), 1);
            s.due("the one behind", x.dish(g, 1), 2);
            s.due("the least byte", x.type(g, 0), 3);
            s.due("the greatest byte", x.type(g, 255), 4);
            s.due("the least is no letter", x.fault(g), 2);
            s.due("behind a fault too", x.type(g, 'b'), 5);
            for (int n = 6; n <= 24; n++) {
                s.due("up to 24", x.type(g, 'h'), n);
            }
            s.due("of him alone", x.type((g + 1) % 3, 'h'), 1);
        }
    }

    private void typeRefused() {
        s.says("BAD;");
        s.badBeyond("type", 0, 0, 2, 0, 'b');
        for (int g = 0; g < 3; g++) {
            s.badBeyond("type", 1, 0, 255, g, 0);
        }
        // what a byte would be, were it cut to eight bits
        s.bad("type", 0, 256 + 'b');
        s.bad("type", 0, 'b' - 256);
        s.says("FULL.");
        for (int g = 0; g < 3; g++) {
            s.refused(States.FULL, FULL, "type", g, 'b');
            s.refused(States.FULL, FULL, "type", g, 0);
            s.refused(States.FULL, FULL, "type", g, 255);
            HiccupPeace x = States.full();
            x.undo(g);
            s.due("room for one", x.type(g, 'b'), 24);
            s.due("and no more", x.type(g, 'b'), FULL);
            x.wipe(g);
            s.due("room anew", x.type(g, 'b'), 1);
            x.sheet(0, 2, 24);
            x.read(0, g);
            s.due("full by a sheet", x.type(g, 'b'), FULL);
        }
    }

    private void wipe() {
        s.in("Promise 3");
        s.says("A MENU is empty: how many bytes it had.");
        for (int had = 0; had <= 24; had++) {
            for (int g = 0; g < 3; g++) {
                HiccupPeace x = new HiccupPeace();
                x.calm(g, 7);
                Check.type(x, (g + 1) % 3, "cb");
                Check.type(x, g, "c".repeat(had));
                s.due("had " + had, x.wipe(g), had);
                s.due("is empty", x.count(g), 0);
                s.due("nothing is told", x.dish(g, 0), 0);
                s.due("calm stays", x.level(g, 0), 7);
                s.due("the next one's stays", x.count((g + 1) % 3), 2);
                s.due("has none", x.wipe(g), 0);
            }
        }
        HiccupPeace x = Check.typed("bxb");
        s.due("with a fault, all bytes", x.wipe(0), 3);
        s.due("the fault is gone", x.fault(0), NONE);
        s.due("and stays so", x.type(0, 'b'), 1);
        s.due("a letter is told", x.dish(0, 0), 1);
        s.says("BAD.");
        s.badBeyond("wipe", 0, 0, 2, 0);
    }

    private void fault() {
        s.in("Promise 4");
        s.says("The FAULT of a MENU; NONE.");
        HiccupPeace x = Check.typed("bbx", "xbb", "bbb");
        s.due("at its end", x.fault(0), 2);
        s.due("at its beginning", x.fault(1), 0);
        s.due("none", x.fault(2), NONE);
        x.type(2, 'B');
        s.due("a capital", x.fault(2), 3);
        x.undo(2);
        s.due("undone", x.fault(2), NONE);
        x.type(1, 'x');
        x.undo(1);
        s.due("the second one undone", x.fault(1), 0);
        HiccupPeace full = States.full();
        s.due("the last of 24", full.fault(1), 23);
        s.due("none of 24", full.fault(0), NONE);
        full.sheet(0, 0, 2);
        full.read(0, 1);
        s.due("a sheet has none", full.fault(1), NONE);
        s.says("BAD.");
        s.badBeyond("fault", 0, 0, 2, 0);
    }

    private void undo() {
        s.in("Promise 5");
        s.says("The last byte of a MENU is undone: how many are left.");
        for (int g = 0; g < 3; g++) {
            HiccupPeace x = new HiccupPeace();
            Check.type(x, g, "c".repeat(23) + "b");
            for (int left = 23; left >= 0; left--) {
                s.due("left", x.undo(g), left);
                s.due("undone", x.dish(g, left), 0);
                s.due("the one ahead stays", x.dish(g, Math.max(0, left - 1)), left > 0 ? 2 : 0);
            }
            Check.type(x, g, "bxb");
            s.due("behind a fault", x.undo(g), 2);
            s.due("the fault is there", x.fault(g), 1);
            s.due("the fault", x.undo(g), 1);
            s.due("a letter is told again", x.dish(g, 0), 1);
        }
        s.says("BAD;");
        s.badBeyond("undo", 0, 0, 2, 0);
        s.says("NOT: it is empty.");
        for (int g = 0; g < 3; g++) {
            s.refused(States.NEW, NOT, "undo", g);
            int whose = g;
            s.refused(() -> wiped(States.busy(), whose), NOT, "undo", g);
            s.refused(() -> wiped(States.full(), whose), NOT, "undo", g);
        }
    }

    private static HiccupPeace wiped(HiccupPeace x, int general) {
        x.wipe(general);
        return x;
    }

    private void calm() {
        s.in("Promise 6");
        s.says("CALM: what it was.");
        for (int g = 0; g < 3; g++) {
            HiccupPeace x = new HiccupPeace();
            int was = 3;
            for (int v : new int[] {0, 9, 1, 8, 5}) {
                s.due("what it was", x.calm(g, v), was);
                s.due("what it is", x.level(g, 0), v);
                was = v;
            }
            s.due("of him alone", x.calm((g + 1) % 3, 0), 3);
        }
        s.says("BAD.");
        s.badBeyond("calm", 0, 0, 2, 0, 5);
        s.badBeyond("calm", 1, 0, 9, 1, 5);
    }

    private void does() {
        s.in("Promise 7");
        s.says("What a DISH does, as any number: what it was.");
        for (int dish = 0; dish < 7; dish++) {
            HiccupPeace x = new HiccupPeace();
            x.does(dish, -9);
            for (int v = -8; v <= 9; v++) {
                s.due("what it was", x.does(dish, v), v - 1);
            }
            s.due("what it was at last", x.does(dish, 0), 9);
            s.isTrue("of this dish alone", x.does((dish + 1) % 7, 1) != 9);
        }
        s.says("BAD: -102.");
        s.due("as a number", new HiccupPeace().does(-1, 0), -102);
        s.badBeyond("does", 0, 0, 6, 0, 0);
        s.badBeyond("does", 1, -9, 9, 6, 0);
    }

    private void setMark() {
        s.in("Promise 8");
        s.says("MARK (what = 0),");
        HiccupPeace x = new HiccupPeace();
        int was = 5;
        for (int v = 1; v <= 10; v++) {
            s.due("what it was", x.set(0, v), was);
            s.due("what it is", x.count(3), v);
            was = v;
        }
        s.due("the law stays", x.count(4), 0);
        s.due("nothing is forbidden", x.count(7), 0);
    }

    private void setLaw() {
        s.says("LAW (1; 0 to 2),");
        HiccupPeace x = new HiccupPeace();
        int was = 0;
        for (int v : new int[] {1, 2, 0}) {
            s.due("what it was", x.set(1, v), was);
            s.due("what it is", x.count(4), v);
            was = v;
        }
        s.due("the mark stays", x.count(3), 5);
        s.due("nothing is forbidden", x.count(7), 0);
    }

    private void setForbidden() {
        s.says("FORBIDDEN (2; 0 to 126, even): what it was.");
        HiccupPeace x = new HiccupPeace();
        int was = 0;
        for (int v = 126; v >= 0; v -= 2) {
            s.due("what it was", x.set(2, v), was);
            s.due("how many", x.count(7), Integer.bitCount(v));
            was = v;
        }
        s.due("the mark stays", x.count(3), 5);
        s.due("the law stays", x.count(4), 0);
        s.says("BAD.");
        for (int v : new int[] {0, 1, 2, 5}) {
            s.badBeyond("set", 0, 0, 2, 0, v);
        }
        s.badBeyond("set", 1, 1, 10, 0, 1);
        s.badBeyond("set", 1, 0, 2, 1, 0);
        s.badBeyond("set", 1, 0, 126, 2, 0);
        for (int odd : new int[] {1, 3, 63, 125, 127}) {
            s.bad("set", 2, odd);
        }
        s.bad("set", 2, 128);
        s.bad("set", 2, -2);
    }

    private void price() {
        s.in("Promise 9");
        s.says("PRICE: what it was.");
        for (int dish = 0; dish < 7; dish++) {
            HiccupPeace x = new HiccupPeace();
            x.price(dish, 0);
            for (int v = 1; v <= 99; v++) {
                s.due("what it was", x.price(dish, v), v - 1);
            }
            s.due("the greatest", x.price(dish, 0), 99);
            s.isTrue("of this dish alone", x.price((dish + 1) % 7, 1) <= 9);
        }
        s.says("BAD.");
        s.badBeyond("price", 0, 0, 6, 0, 5);
        s.badBeyond("price", 1, 0, 99, 6, 5);
    }

    private void read() {
        s.in("Promise 10");
        s.says("A MENU becomes that of a SHEET: its items are DISHES,");
        for (int form = 0; form < 3; form++) {
            for (int g = 0; g < 3; g++) {
                HiccupPeace x = Check.typed("ccccccccc", "bx", "x");
                States.putAll(x, 3, form, 6, 5, 4, 3, 2, 1, 0);
                s.due("all dishes", x.read(3, g), 7);
                for (int hour = 0; hour < 24; hour++) {
                    s.due("dish of hour " + hour, x.dish(g, hour), Math.max(0, 6 - hour));
                }
                s.due("no fault is left", x.fault(g), NONE);
                s.due("told", x.count(g), 7);
                s.due("the sheet stays", x.get(3, form, 0), 6);
                s.due("bytes come behind it", x.type(g, 'c'), 8);
                s.due("and are told", x.dish(g, 7), 2);
            }
        }
        HiccupPeace x = Check.typed("cc", "bx", "c");
        x.sheet(0, 2, 3);
        x.read(0, 1);
        s.due("menu 0 stays", x.wipe(0), 2);
        s.due("menu 2 stays", x.wipe(2), 1);
        s.due("menu 1 is read", x.wipe(1), 3);
    }

    private void readUpToWhat() {
        s.says("as long as each may be, 24 at most: how many.");
        for (int wrong : new int[] {-1, 7, Integer.MIN_VALUE, Integer.MAX_VALUE, 98}) {
            HiccupPeace x = Check.typed("bbb");
            States.putAll(x, 0, 2, 6, 0, wrong, 1);
            s.due("up to " + wrong, x.read(0, 0), 2);
            s.due("what is read", x.dish(0, 0), 6);
            s.due("nothing of it", x.dish(0, 2), 0);
            s.due("nothing behind it", x.dish(0, 3), 0);
            x.put(0, 2, 0, wrong);
            s.due("none at all", x.read(0, 0), 0);
            s.due("an empty menu", x.wipe(0), 0);
        }
        int[] sizes = {0, 1, 23, 24, 25, 48};
        for (int size : sizes) {
            HiccupPeace x = Check.typed("bx");
            x.sheet(1, 1, size);
            s.due("a sheet of " + size, x.read(1, 0), Math.min(24, size));
            s.due("its bytes", x.wipe(0), Math.min(24, size));
        }
        HiccupPeace x = new HiccupPeace();
        States.putAll(x, 0, 0, 256 + 6, 255, 0);
        s.due("bytes as they are held", x.read(0, 0), 1);
        s.due("the lowest bits of 262", x.dish(0, 0), 6);
        States.putAll(x, 0, 1, 65536 + 6, 65535, 0);
        s.due("shorts as they are held", x.read(0, 0), 1);
        x.sheet(0, 2, 48);
        x.put(0, 2, 23, 6);
        x.put(0, 2, 24, 99);
        s.due("item 24 is not looked at", x.read(0, 0), 24);
        s.due("item 23 is", x.dish(0, 23), 6);
    }

    private void readRefused() {
        s.says("BAD;");
        s.badBeyond("read", 0, 0, 3, 0, 0);
        s.badBeyond("read", 1, 0, 2, 3, 0);
        s.says("NULL.");
        for (int g = 0; g < 3; g++) {
            s.found(States.BUSY, 1, "read", 3, g);
            s.found(States.NEW, 1, "read", 0, g);
        }
    }
}
