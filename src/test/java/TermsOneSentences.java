import java.math.BigInteger;

/** The first part of the terms: generals, menus, levels, laws, fractions, sheets and findings. */
final class TermsOneSentences {
    private static final String LETTERS = "nbcvfsh";
    private static final int NONE = Check.NONE, FULL = Check.FULL;
    private final Sentences s;

    TermsOneSentences(Sentences s) {
        this.s = s;
    }

    void run() {
        s.in("Terms");
        generals();
        hours();
        menus();
        letters();
        nothingBehind();
        fault();
        faultIsEmpty();
        calm();
        does();
        levels();
        mark();
        hiccups();
        laws();
        fractions();
        sheets();
        findings();
    }

    private void generals() {
        s.says("GENERALS are 0 to 2 (the third one trains).");
        HiccupPeace x = Check.typed("c", "cc", "ccc");
        for (int g = 0; g < 3; g++) {
            s.due("menu of " + g, x.count(g), g + 1);
        }
        for (String act : new String[] {"wipe", "fault", "undo", "hiccups", "fright"}) {
            s.badBeyond(act, 0, 0, 2, 0);
        }
        s.bad("parrot", 2);
        s.bad("trained", 2, 0);
        s.bad("quiet", 2, 0, 0, NONE);
        HiccupPeace y = States.byHours(Check.hours(0), Check.hours(1), Check.hours(0));
        s.due("the third one, like general 0", y.trained(0, 0), 24);
        s.due("the third one, like general 1", y.trained(1, 0), 22);
    }

    private void hours() {
        s.says("HOURS are 0 to 23.");
        HiccupPeace x = States.byLevels(9, 9, 9);
        for (int g = 0; g < 3; g++) {
            s.due("24 hours of " + g, x.hiccups(g), (1 << 24) - 1);
            s.due("hour 0", x.level(g, 0), 9);
            s.due("hour 23", x.level(g, 23), 9);
            s.badBeyond("dish", 1, 0, 23, g, 0);
            s.badBeyond("level", 1, 0, 23, g, 0);
            s.badBeyond("led", 1, 0, 23, g, 0);
        }
    }

    private void menus() {
        s.says("A MENU of each (texts 0 to 2) is a text of up to 24 letters: the DISH of HOURS 0 on:");
        for (int g = 0; g < 3; g++) {
            HiccupPeace x = new HiccupPeace();
            for (int k = 0; k < 24; k++) {
                s.due("letter " + k, x.type(g, States.WHOLE_DAY.charAt(k)), k + 1);
            }
            s.due("the 25th", x.type(g, 'n'), FULL);
            for (int hour = 0; hour < 24; hour++) {
                s.due("dish of hour " + hour, x.dish(g, hour), LETTERS.indexOf(States.WHOLE_DAY.charAt(hour)));
                s.due("dish of the next one", x.dish((g + 1) % 3, hour), 0);
            }
            s.due("the next one's menu", x.wipe((g + 1) % 3), 0);
            s.due("the menu after the next", x.wipe((g + 2) % 3), 0);
        }
    }

    private void letters() {
        s.says("n nothing, b bread, c champagne, v vinegar, f a fright, s sleep, h herbs (DISHES 0 to 6);");
        for (int dish = 0; dish < 7; dish++) {
            HiccupPeace x = Check.typed("b" + LETTERS.charAt(dish));
            s.due("the dish of " + LETTERS.charAt(dish), x.dish(0, 1), dish);
            s.isTrue("it does something", x.does(dish, 0) >= -9);
            s.isTrue("it has a price", x.price(dish, 0) >= 0);
        }
        s.badBeyond("does", 0, 0, 6, 0, 0);
        s.badBeyond("price", 0, 0, 6, 0, 0);
    }

    private void nothingBehind() {
        s.says("behind the last one told: nothing.");
        for (int told = 0; told <= 24; told++) {
            HiccupPeace x = new HiccupPeace();
            Check.type(x, 1, "c".repeat(told));
            for (int hour = 0; hour < 24; hour++) {
                s.due(told + " told, hour " + hour, x.dish(1, hour), hour < told ? 2 : 0);
            }
        }
        HiccupPeace x = Check.typed("b");
        x.does(0, 2);
        s.due("nothing may do something", x.level(0, 2), 8);
    }

    private void fault() {
        s.says("The FAULT of a MENU is the place of the first byte that is no such letter; NONE.");
        for (int b = 0; b < 256; b++) {
            HiccupPeace x = new HiccupPeace();
            x.type(0, 'b');
            x.type(0, b);
            s.due("byte " + b, x.fault(0), LETTERS.indexOf(b) >= 0 ? NONE : 1);
        }
        for (int place = 0; place < 24; place++) {
            HiccupPeace x = new HiccupPeace();
            Check.type(x, 2, "b".repeat(place) + "N");
            s.due("at its end", x.fault(2), place);
            Check.type(x, 2, "x".repeat(23 - place));
            s.due("the first of them", x.fault(2), place);
        }
        HiccupPeace x = Check.typed(States.WHOLE_DAY);
        s.due("a full menu of letters", x.fault(0), NONE);
        s.due("an empty menu", x.fault(1), NONE);
    }

    private void faultIsEmpty() {
        s.says("With a FAULT it is as if it was empty.");
        String[] faulty = {"x", "xcc", "ccx", "c".repeat(23) + "x"};
        for (String menu : faulty) {
            HiccupPeace x = Check.typed(menu, menu, menu);
            HiccupPeace empty = new HiccupPeace();
            for (HiccupPeace each : new HiccupPeace[] {x, empty}) {
                each.does(0, 1);
                each.price(0, 7);
                each.set(2, 32);
                each.seen(0, 1, 1);
                each.seen(2, 1, 0);
            }
            s.same("all asked with " + menu, Inventory.asked(x), Inventory.asked(empty));
            s.due("its bytes are there still", x.wipe(0), menu.length());
        }
        HiccupPeace x = Check.typed("ccx");
        x.undo(0);
        s.due("mended it is not", x.dish(0, 1), 2);
    }

    private void calm() {
        s.says("CALM of a GENERAL (0 to 9; 3 at first) is the LEVEL ahead of HOUR 0.");
        for (int g = 0; g < 3; g++) {
            HiccupPeace x = new HiccupPeace();
            s.due("at first", x.calm(g, 0), 3);
            s.due("the least", x.calm(g, 9), 0);
            s.due("the greatest", x.calm(g, 3), 9);
            s.badBeyond("calm", 1, 0, 9, g, 5);
            for (int v = 0; v <= 9; v++) {
                HiccupPeace y = new HiccupPeace();
                y.calm(g, v);
                s.due("hour 0", y.level(g, 0), v);
                s.due("of him alone", y.level((g + 1) % 3, 0), 3);
                y.type(g, 'b');
                s.due("hour 0 comes behind it", y.level(g, 0), Math.min(v + 1, 9));
            }
        }
    }

    private void does() {
        s.says("A DISH does so much (-9 to 9 each; at first 0, 1, 3, -4, -9, -1, -2):");
        int[] first = {0, 1, 3, -4, -9, -1, -2};
        HiccupPeace x = new HiccupPeace();
        for (int dish = 0; dish < 7; dish++) {
            s.due("at first " + dish, x.does(dish, -9), first[dish]);
            s.due("the least " + dish, x.does(dish, 9), -9);
            s.due("the greatest " + dish, x.does(dish, first[dish]), 9);
            s.badBeyond("does", 1, -9, 9, dish, 1);
        }
        HiccupPeace y = Check.typed("nbcvfsh");
        int[] levels = {3, 4, 7, 3, 0, 0, 0};
        for (int hour = 0; hour < 7; hour++) {
            s.due("level of hour " + hour, y.level(0, hour), levels[hour]);
        }
    }

    private void levels() {
        s.says("the LEVEL of an HOUR is that of the HOUR ahead and that, 0 at least, 9 at most.");
        for (int dish = 0; dish < 7; dish++) {
            for (int calm = 0; calm <= 9; calm++) {
                HiccupPeace x = Check.typed("", String.valueOf(LETTERS.charAt(dish)));
                x.calm(1, calm);
                for (int v = -9; v <= 9; v++) {
                    x.does(dish, v);
                    s.due(calm + " and " + v, x.level(1, 0), Math.max(0, Math.min(9, calm + v)));
                }
            }
        }
        HiccupPeace x = Check.typed("cccvffb");
        int[] levels = {6, 9, 9, 5, 0, 0, 1, 1};
        for (int hour = 0; hour < levels.length; hour++) {
            s.due("what is cut off is gone, hour " + hour, x.level(0, hour), levels[hour]);
        }
        s.due("the last hour", x.level(0, 23), 1);
    }

    private void mark() {
        s.says("MARK (1 to 10; 5 at first):");
        HiccupPeace x = new HiccupPeace();
        s.due("at first", x.set(0, 1), 5);
        s.due("the least", x.set(0, 10), 1);
        s.due("the greatest", x.set(0, 5), 10);
        s.badBeyond("set", 1, 1, 10, 0, 5);
    }

    private void hiccups() {
        s.says("one HICCUPS in an HOUR, if the LEVEL is MARK or more, and one does not sleep.");
        for (int level = 0; level <= 9; level++) {
            for (int mark = 1; mark <= 10; mark++) {
                HiccupPeace x = States.byLevels(level, level, level);
                Check.type(x, 1, "s");
                Check.type(x, 2, "n".repeat(23) + "s");
                x.does(5, 0);
                x.set(0, mark);
                String what = "level " + level + ", mark " + mark;
                s.due(what, x.hiccups(0), level >= mark ? Check.ALL_HOURS : 0);
                s.due(what + ", asleep in hour 0", x.hiccups(1), level >= mark ? Check.row(1, 23) : 0);
                s.due(what + ", asleep in hour 23", x.hiccups(2), level >= mark ? Check.row(0, 22) : 0);
            }
        }
        HiccupPeace x = Check.typed("s");
        x.does(5, 9);
        s.due("sleep may bring him to it, but later", x.hiccups(0), Check.row(1, 23));
    }

    /** Each way in which two hours may go for both, at the beginning, within and at the end of the day. */
    private void laws() {
        s.says("LAW: the peace is BROKEN in an HOUR, if (0, at first) GENERALS 0 and 1 both HICCUP in it;");
        s.due("at first", new HiccupPeace().set(1, 0), 0);
        lawDue(0);
        s.says("(1) one of them at least;");
        lawDue(1);
        s.says("(2) both HICCUP in it, or one in it and the other one in the HOUR ahead.");
        lawDue(2);
        HiccupPeace x = States.byHours(Check.hours(23), Check.hours(0));
        s.due("hour 0 has no hour ahead, and there is none behind hour 23", x.broken(2), 0);
    }

    private void lawDue(int law) {
        for (int from : new int[] {0, 11, 22}) {
            for (int way = 0; way < 16; way++) {
                int one = way & 3;
                int other = way >> 2;
                int due = 0;
                for (int k = 0; k < 3; k++) {
                    boolean a = (one >> k & 1) == 1;
                    boolean b = (other >> k & 1) == 1;
                    boolean aAhead = k > 0 && (one >> (k - 1) & 1) == 1;
                    boolean bAhead = k > 0 && (other >> (k - 1) & 1) == 1;
                    boolean is = law == 1 ? a || b : a && b || law == 2 && (a && bAhead || b && aAhead);
                    due |= is && from + k < 24 ? 1 << (from + k) : 0;
                }
                HiccupPeace x = States.byHours(one << from, other << from, Check.ALL_HOURS);
                s.due("way " + way + " from " + from, x.broken(law), due);
            }
        }
        s.badBeyond("broken", 0, 0, 2, 0);
        s.badBeyond("set", 1, 0, 2, 1, 0);
    }

    private void fractions() {
        s.says("FRACTIONS are told in lowest terms, above and below (0 by 1).");
        for (int one = 0; one <= 9; one++) {
            for (int other = 0; other <= 9; other++) {
                HiccupPeace x = States.byLevels(one, other);
                for (int n = 0; n <= 7; n++) {
                    BigInteger above = BigInteger.valueOf(256 - one * other).pow(n);
                    BigInteger below = BigInteger.valueOf(256).pow(n);
                    BigInteger common = above.gcd(below);
                    String what = one + " and " + other + " for " + n;
                    s.due(what + ", above", x.odds(17, n, 0), above.divide(common).longValueExact());
                    s.due(what + ", below", x.odds(17, n, 1), below.divide(common).longValueExact());
                }
            }
        }
    }

    private void sheets() {
        s.says("SHEETS 0 .. 3 are LOST (at first) or a row of a FORM:");
        for (int sheet = 0; sheet < 4; sheet++) {
            HiccupPeace x = new HiccupPeace();
            s.due("at first", x.lose(sheet), Check.NULL);
            s.due("a row", x.sheet(sheet, 1, 3), 3);
            s.due("of this one alone", x.lose((sheet + 1) % 4), Check.NULL);
            s.due("lost again", x.lose(sheet), 3);
        }
        s.badBeyond("lose", 0, 0, 3, 0);
        s.says("0 bytes, 1 shorts, 2 ints,");
        int[] due = {(byte) 0x1234F688, (short) 0x1234F688, 0x1234F688};
        for (int form = 0; form < 3; form++) {
            HiccupPeace x = new HiccupPeace();
            x.sheet(0, form, 1);
            x.put(0, form, 0, 0x1234F688);
            s.due("form " + form, x.get(0, form, 0), due[form]);
        }
        s.badBeyond("sheet", 1, 0, 2, 0, 0, 1);
        s.badBeyond("put", 1, 0, 2, 0, 0, 0, 0);
        s.badBeyond("get", 1, 0, 2, 0, 0, 0);
        s.says("of 0 to 48 items (0 at first).");
        for (int form = 0; form < 3; form++) {
            HiccupPeace x = new HiccupPeace();
            s.due("the least", x.sheet(1, form, 0), 0);
            s.due("no item", x.get(1, form, 0), Integer.MIN_VALUE);
            s.due("the greatest", x.sheet(2, form, 48), 48);
            for (int i = 0; i < 48; i++) {
                s.due("at first", x.get(2, form, i), 0);
            }
            s.due("no more items", x.get(2, form, 48), Integer.MIN_VALUE);
            s.badAbove("sheet", 2, 48, 1, form, 0);
        }
    }

    private void findings() {
        s.says("FINDINGS (answers -10 less the number; they change nothing but count() 8):");
        s.found(States.BUSY, 1, "lose", 3);
        s.found(States.BUSY, 2, "put", 0, 0, 5, 1);
        s.found(States.BUSY, 3, "put", 0, 1, 0, 1);
        s.found(States.BUSY, 4, "copy", 0, 0, 1, 0, 1);
        s.found(States.FULL, 5, "sheet", 0, 0, -1);
        s.says("1 NULL: the SHEET is LOST;");
        int[][] lost = {{3, 0}, {3, 0, 0, 9}, {3, 0, 0}, {3, 0, 0, 0, 0}, {0, 0, 3, 0, 0}, {0, 3}, {3}};
        String[] acts = {"read", "put", "get", "copy", "copy", "write", "lose"};
        for (int k = 0; k < acts.length; k++) {
            s.found(States.NEW, 1, acts[k], lost[k]);
            s.found(States.BUSY, 1, acts[k], lost[k]);
        }
        s.says("2 INDEX: there is no such item;");
        for (int i : new int[] {5, -1, 48, Integer.MIN_VALUE, Integer.MAX_VALUE}) {
            s.found(States.BUSY, 2, "put", 0, 0, i, 9);
            s.found(States.BUSY, 2, "get", 0, 0, i);
            s.found(States.BUSY, 2, "copy", 0, i, 0, 0, 1);
            s.found(States.BUSY, 2, "copy", 0, 0, 0, i, 1);
        }
        s.says("3 CAST: it has another FORM;");
        for (int form = 0; form < 3; form++) {
            s.found(States.BUSY, 3, "put", form, (form + 1) % 3, 0, 9);
            s.found(States.BUSY, 3, "put", form, (form + 2) % 3, 0, 9);
            s.found(States.FULL, 3, "get", form, (form + 1) % 3, 0);
            s.found(States.FULL, 3, "get", form, (form + 2) % 3, 0);
        }
        s.says("4 STORE: unlike FORMS;");
        for (int form = 0; form < 3; form++) {
            s.found(States.BUSY, 4, "copy", form, 0, (form + 1) % 3, 0, 1);
            s.found(States.FULL, 4, "copy", form, 0, (form + 2) % 3, 0, 1);
        }
        s.says("5 SIZE: below 0.");
        for (int n : new int[] {-1, -49, Integer.MIN_VALUE}) {
            s.found(States.NEW, 5, "sheet", 0, 0, n);
            s.found(States.FULL, 5, "sheet", 3, 2, n);
        }
        s.due("0 is no finding", new HiccupPeace().sheet(0, 0, 0), 0);
    }
}
