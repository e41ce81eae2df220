/** Promises 28 to 35: sheets, counts and the digest. */
public final class SheetsTest {
    private static final Check check = new Check();
    private static final int LEAST = Integer.MIN_VALUE;

    public static void main(String[] args) {
        promise28Sheet();
        promise29Lose();
        promise30Put();
        promise31Get();
        promise32Copy();
        promise32CopyRefused();
        promise33Write();
        promise34Count();
        promise35Digest();
        check.end();
    }

    private static void found(String what, HiccupPeace x, int got, int due) {
        check.due(what, got, due);
        check.due(what + ", count 8", x.count(8), -10 - due);
    }

    private static void promise28Sheet() {
        HiccupPeace x = new HiccupPeace();
        check.due("sheet", x.sheet(0, 0, 48), 48);
        check.due("empty sheet", x.sheet(3, 2, 0), 0);
        check.due("an item at first", x.get(0, 0, 47), 0);
        x.put(0, 0, 2, 9);
        check.due("above 48", x.sheet(0, 0, 49), Check.BAD);
        check.due("far above 48", x.sheet(0, 0, Integer.MAX_VALUE), Check.BAD);
        check.due("form 3", x.sheet(0, 3, 1), Check.BAD);
        check.due("form -1", x.sheet(0, -1, 1), Check.BAD);
        check.due("sheet 4", x.sheet(4, 0, 1), Check.BAD);
        check.due("sheet -1", x.sheet(-1, 0, 1), Check.BAD);
        check.due("BAD ahead of SIZE", x.sheet(4, 0, -1), Check.BAD);
        check.due("BAD form ahead of SIZE", x.sheet(0, 3, -1), Check.BAD);
        check.due("BAD is no finding", x.count(8), 0);
        found("below 0", x, x.sheet(0, 1, -1), Check.SIZE);
        found("far below 0", x, x.sheet(1, 1, Integer.MIN_VALUE), Check.SIZE);
        check.due("refusals leave the old row", x.get(0, 0, 2), 9);
        check.due("and no new one", x.lose(1), Check.NULL);
        x.sheet(0, 0, 3);
        check.due("a new row is 0", x.get(0, 0, 2), 0);
        x.put(0, 0, 2, 5);
        x.lose(0);
        x.sheet(0, 0, 3);
        check.due("a new row behind a lost one is 0", x.get(0, 0, 2), 0);
    }

    private static void promise29Lose() {
        HiccupPeace x = new HiccupPeace();
        x.sheet(2, 1, 7);
        x.sheet(1, 1, 0);
        check.due("lose", x.lose(2), 7);
        check.due("lose an empty one", x.lose(1), 0);
        found("lost already", x, x.lose(2), Check.NULL);
        check.due("lose 4", x.lose(4), Check.BAD);
        check.due("lose -1", x.lose(-1), Check.BAD);
    }

    private static void promise30Put() {
        HiccupPeace x = new HiccupPeace();
        int[] values = {0, 1, -1, 127, 128, 255, 256, 32767, 32768, 65535, 65536, LEAST, Integer.MAX_VALUE, -129, -32769};
        for (int form = 0; form < 3; form++) {
            x.sheet(form, form, 2);
            for (int v : values) {
                check.due("put", x.put(form, form, 1, v), 1);
                int due = form == 0 ? (byte) v : form == 1 ? (short) v : v;
                check.due("put " + v + " as " + form, x.get(form, form, 1), due);
                check.due("the item ahead", x.get(form, form, 0), 0);
            }
        }
        check.due("put sheet 4", x.put(4, 0, 0, 0), Check.BAD);
        check.due("put sheet -1", x.put(-1, 0, 0, 0), Check.BAD);
        check.due("put form 3", x.put(0, 3, 0, 0), Check.BAD);
        check.due("put form -1", x.put(0, -1, 0, 0), Check.BAD);
        check.due("BAD ahead of NULL", x.put(3, 3, 0, 0), Check.BAD);
        found("NULL ahead of all", x, x.put(3, 1, -1, 0), Check.NULL);
        found("CAST", x, x.put(0, 1, 0, 0), Check.CAST);
        found("CAST ahead of INDEX", x, x.put(0, 2, 99, 0), Check.CAST);
        for (int i : new int[] {2, -1, LEAST, Integer.MAX_VALUE}) {
            found("INDEX " + i, x, x.put(0, 0, i, 0), Check.INDEX);
        }
    }

    private static void leastFound(String what, HiccupPeace x, int got, int finding) {
        check.due(what, got, LEAST);
        check.due(what + ", count 8", x.count(8), finding);
    }

    private static void promise31Get() {
        HiccupPeace x = new HiccupPeace();
        x.sheet(0, 1, 3);
        x.put(0, 1, 2, 77);
        check.due("get", x.get(0, 1, 2), 77);
        leastFound("get 4", x, x.get(4, 0, 0), 0);
        leastFound("get -1", x, x.get(-1, 0, 0), 0);
        leastFound("get form 3", x, x.get(0, 3, 0), 0);
        leastFound("get form -1", x, x.get(1, -1, 0), 0);
        leastFound("get NULL", x, x.get(1, 1, 9), 1);
        leastFound("get CAST", x, x.get(0, 0, 9), 3);
        for (int i : new int[] {3, -1, LEAST, Integer.MAX_VALUE}) {
            leastFound("get INDEX " + i, x, x.get(0, 1, i), 2);
            leastFound("get CAST", x, x.get(0, 2, 0), 3);
        }
        check.due("get is no finding", x.get(0, 1, 0), 0);
        check.due("the latest stays", x.count(8), 3);
    }

    private static HiccupPeace counted(int form, int n) {
        HiccupPeace x = new HiccupPeace();
        x.sheet(0, form, n);
        for (int i = 0; i < n; i++) {
            x.put(0, form, i, i + 1);
        }
        return x;
    }

    private static void itemsDue(String what, HiccupPeace x, int s, int form, int... due) {
        for (int i = 0; i < due.length; i++) {
            check.due(what + ", item " + i, x.get(s, form, i), due[i]);
        }
    }

    private static void promise32Copy() {
        for (int form = 0; form < 3; form++) {
            HiccupPeace x = counted(form, 5);
            x.sheet(1, form, 4);
            check.due("copy", x.copy(0, 3, 1, 1, 2), 1);
            itemsDue("copy", x, 1, form, 0, 4, 5, 0);
            itemsDue("what it came from", x, 0, form, 1, 2, 3, 4, 5);
            check.due("copy on", x.copy(0, 0, 0, 1, 4), 1);
            itemsDue("as they were, on", x, 0, form, 1, 1, 2, 3, 4);
            check.due("copy back", x.copy(0, 1, 0, 0, 4), 1);
            itemsDue("as they were, back", x, 0, form, 1, 2, 3, 4, 4);
            check.due("copy none at the end", x.copy(0, 5, 1, 4, 0), 1);
        }
    }

    private static void promise32CopyRefused() {
        HiccupPeace x = counted(1, 5);
        x.sheet(1, 1, 4);
        x.sheet(2, 2, 9);
        check.due("copy from 4", x.copy(4, 0, 0, 0, 0), Check.BAD);
        check.due("copy to 4", x.copy(0, 0, 4, 0, 0), Check.BAD);
        check.due("copy from -1", x.copy(-1, 0, 3, 0, 0), Check.BAD);
        check.due("BAD ahead of NULL", x.copy(3, 0, -1, 0, 0), Check.BAD);
        check.due("no finding", x.count(8), 0);
        found("NULL s", x, x.copy(3, -1, 0, 0, 0), Check.NULL);
        found("STORE", x, x.copy(0, 0, 2, 0, 1), Check.STORE);
        found("NULL t", x, x.copy(0, 0, 3, 0, 0), Check.NULL);
        found("STORE ahead of INDEX", x, x.copy(0, -1, 2, 0, 1), Check.STORE);
        int max = Integer.MAX_VALUE;
        int[][] wrong = {{-1, 0, 1}, {0, -1, 1}, {0, 0, -1}, {0, 0, 5}, {3, 0, 3}, {0, 2, 3}, {6, 0, 0}, {0, 5, 0},
            {max, 0, 1}, {0, max, 1}, {0, 0, max}, {1, 1, max}, {max, max, max}, {LEAST, 0, LEAST}, {0, LEAST, 1}};
        for (int[] w : wrong) {
            found("copy " + w[0] + " " + w[1] + " " + w[2], x, x.copy(0, w[0], 1, w[1], w[2]), Check.INDEX);
        }
        itemsDue("nothing came", x, 1, 1, 0, 0, 0, 0);
    }

    private static void promise33Write() {
        for (int form = 0; form < 3; form++) {
            HiccupPeace x = Check.typed("bccv");
            x.sheet(0, form, 3);
            x.sheet(1, form, 48);
            x.put(1, form, 24, 5);
            x.sheet(2, form, 0);
            check.due("write few", x.write(0, 0), 3);
            itemsDue("write few", x, 0, form, 4, 7, 9);
            check.due("write many", x.write(0, 1), 24);
            itemsDue("write many", x, 1, form, 4, 7, 9, 5, 5);
            check.due("write the last", x.get(1, form, 23), 5);
            check.due("write no more", x.get(1, form, 24), 5);
            check.due("write none", x.write(0, 2), 0);
            check.due("write 3", x.write(3, 0), Check.BAD);
            check.due("write -1", x.write(-1, 0), Check.BAD);
            check.due("write to 4", x.write(0, 4), Check.BAD);
            check.due("write to -1", x.write(0, -1), Check.BAD);
            check.due("BAD ahead of NULL", x.write(3, 3), Check.BAD);
            check.due("BAD is no finding", x.count(8), 0);
            found("write to a lost one", x, x.write(0, 3), Check.NULL);
        }
    }

    private static void promise34Count() {
        HiccupPeace x = Check.typed("nbc", "vfsh", "cc");
        x.price(0, 7);
        check.due("dishes of 0", x.count(0), 3);
        check.due("dishes of 1", x.count(1), 4);
        check.due("dishes of 2", x.count(2), 2);
        check.due("prices, nothing told too", x.count(6), 7 + 2 + 9 + 3 + 1 + 0 + 5);
        x.type(1, 'x');
        check.due("dishes with a fault", x.count(1), 0);
        check.due("prices with a fault", x.count(6), 18);
        x.set(0, 7);
        x.set(1, 2);
        x.set(2, 2 + 8 + 64);
        x.seen(0, 0, 0);
        check.due("mark", x.count(3), 7);
        check.due("law", x.count(4), 2);
        check.due("seen", x.count(5), 1);
        check.due("forbidden", x.count(7), 3);
        check.due("finding", x.count(8), 0);
        x.lose(0);
        check.due("finding then", x.count(8), 1);
        for (int what : new int[] {9, -1, LEAST, Integer.MAX_VALUE}) {
            check.due("count " + what, x.count(what), Check.BAD);
        }
    }

    private static long folded(long... values) {
        long h = 17;
        for (long v : values) {
            h = 31 * h + v;
        }
        return h;
    }

    private static void promise35Digest() {
        long all = Check.ALL_HOURS;
        HiccupPeace x = new HiccupPeace();
        x.calm(0, 0);
        x.calm(1, 0);
        x.calm(2, 0);
        check.due("digest of calm ones", x.digest(), folded(
                0, 0, 0, 5, 0, 0, 0, 0,
                -1, 0, 0, 0, 0, 0, all, -1, 0, 0, 0, 0, 0, all, -1, 0, 0, 0, 0, 0, all,
                0, 0, 0, -1, 0, 24, 1, 1, 0, 0, 0, 0, 0, -1, 0, 0, 0, 24, 24, 0));
        x.lose(0);
        check.due("count 8 is not in it", x.digest(), new HiccupPeaceDigest().of(x));
        HiccupPeace y = Check.typed("bccsvb", "cccnnh", "bx");
        y.set(2, 1 << 5);
        y.seen(0, 1, 1);
        y.seen(1, 1, 0);
        check.due("digest", y.digest(), new HiccupPeaceDigest().of(y));
        check.due("it changes nothing", y.digest(), new HiccupPeaceDigest().of(y));
        // war by bread alone: from 2 on it takes seven hours to 9, from 3 on six, from 4 on five
        for (int calm = 2; calm <= 4; calm++) {
            HiccupPeace z = new HiccupPeace();
            z.set(0, 9);
            z.set(2, 124);
            z.calm(0, 9);
            z.calm(1, calm);
            check.due("in six hours", z.force(3, 6, 0), calm == 2 ? 0 : 1);
            check.due("digest by force", z.digest(), new HiccupPeaceDigest().of(z));
        }
        HiccupPeace w = Check.typed("ccccccccccccbbb", "cccccccccvbfnc", "bvbbcvbbbcvb");
        for (int dish = 0; dish < 7; dish++) {
            w.price(dish, 10 + dish);
        }
        check.due("digest by hours and prices", w.digest(), new HiccupPeaceDigest().of(w));
    }

    /** The digest by the public calls, row by row as the document lists them. */
    private static final class HiccupPeaceDigest {
        private long h = 17;

        private void next(long v) {
            h = h * 31 + v;
        }

        long of(HiccupPeace x) {
            for (int what = 0; what < 8; what++) {
                next(x.count(what));
            }
            for (int g = 0; g < 3; g++) {
                next(x.fault(g));
                next(x.hiccups(g));
                next(x.level(g, 0));
                next(x.level(g, 9));
                next(x.level(g, 23));
                next(x.heard(g, 7));
                next(x.fright(g));
            }
            next(x.broken(0));
            next(x.broken(1));
            next(x.broken(2));
            next(x.judged());
            next(x.armistice(0));
            next(x.armistice(1));
            next(x.odds(4, 5, 0));
            next(x.odds(4, 5, 1));
            next(x.quiet(0, 2, 9, -1));
            next(x.quiet(0, 2, 9, 0));
            next(x.quiet(1, 2, 9, -1));
            next(x.quiet(1, 2, 9, 0));
            next(x.force(3, 6, 0));
            next(x.force(3, 6, 1));
            next(x.unlike());
            next(x.parrot(0));
            next(x.parrot(1));
            next(x.trained(0, 0));
            next(x.trained(0, 1));
            next(x.trained(0, 2));
            return h;
        }
    }
}
