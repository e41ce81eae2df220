import java.math.BigInteger;
import java.util.ArrayList;
import java.util.HashMap;
import java.util.List;
import java.util.Map;

/** The document told once more, with the library's help and in another way: what the class is held against. */
final class Model {
    static final String LETTERS = "nbcvfsh";
    private final String[] menus = {"", "", ""};
    private final int[] calms = {3, 3, 3};
    private final int[] effects = {0, 1, 3, -4, -9, -1, -2};
    private final int[] prices = {0, 2, 9, 3, 1, 0, 5};
    private final Object[] sheets = new Object[4];
    private final List<int[]> sightings = new ArrayList<>();
    private int mark = 5;
    private int law = 0;
    private int forbidden = 0;
    private int latest = 0;

    /** A refusal by BAD, NOT or FULL. */
    private static final class Refusal extends RuntimeException {
        private static final long serialVersionUID = 1;
        final int number;

        Refusal(int number) {
            this.number = number;
        }
    }

    long call(String act, int[] a) {
        try {
            return answer(act, a);
        } catch (Refusal r) {
            switch (act) {
                case "odds": return Long.MIN_VALUE - r.number;
                case "does": return -100 + r.number;
                case "get": return Integer.MIN_VALUE;
                default: return r.number;
            }
        } catch (NullPointerException e) {
            return found(1, act);
        } catch (NegativeArraySizeException e) {
            return found(5, act);
        } catch (ArrayStoreException e) {
            return found(4, act);
        } catch (IndexOutOfBoundsException e) {
            return found(2, act);
        } catch (ClassCastException e) {
            return found(3, act);
        }
    }

    private long found(int number, String act) {
        latest = number;
        return act.equals("get") ? Integer.MIN_VALUE : -10 - number;
    }

    private static void need(boolean fits) {
        if (!fits) {
            throw new Refusal(-2);
        }
    }

    private static void range(int v, int least, int most) {
        need(v >= least && v <= most);
    }

    private long answer(String act, int[] a) {
        switch (act) {
            case "type": return type(a[0], a[1]);
            case "wipe": return wipe(a[0]);
            case "fault": return fault(a[0]);
            case "undo": return undo(a[0]);
            case "calm": return calm(a[0], a[1]);
            case "does": range(a[0], 0, 6); range(a[1], -9, 9); return swap(effects, a[0], a[1]);
            case "set": return set(a[0], a[1]);
            case "price": range(a[0], 0, 6); range(a[1], 0, 99); return swap(prices, a[0], a[1]);
            case "read": return read(a[0], a[1]);
            case "dish": range(a[0], 0, 2); range(a[1], 0, 23); return LETTERS.indexOf(full(a[0]).charAt(a[1]));
            case "level": range(a[0], 0, 2); range(a[1], 0, 23); return levels(full(a[0]), calms[a[0]])[a[1] + 1];
            case "hiccups": range(a[0], 0, 2); return bits(hic(a[0]));
            case "broken": range(a[0], 0, 2); return bits(broken(a[0]));
            case "judged": return judged();
            case "armistice": range(a[0], 0, 1); return armistice()[a[0]];
            case "led": return led(a[0], a[1]);
            case "odds": return odds(a[0], a[1], a[2]);
            case "heard": return heard(a[0], a[1]);
            case "quiet": return quiet(a[0], a[1], a[2], a[3]);
            case "force": return force(a[0], a[1], a[2]);
            default: return answerMore(act, a);
        }
    }

    private long answerMore(String act, int[] a) {
        switch (act) {
            case "seen": return seen(a[0], a[1], a[2]);
            case "forget": return forget();
            case "fright": return fright(a[0]);
            case "unlike": return unlike();
            case "parrot": return parrot(a[0]);
            case "trained": range(a[0], 0, 1); range(a[1], 0, 2); return trained(a[0])[a[1]];
            case "sheet": return sheet(a[0], a[1], a[2]);
            case "lose": return lose(a[0]);
            case "put": return put(a[0], a[1], a[2], a[3]);
            case "get": return get(a[0], a[1], a[2]);
            case "copy": return copy(a[0], a[1], a[2], a[3], a[4]);
            case "write": return write(a[0], a[1]);
            case "count": return count(a[0]);
            case "digest": return digest();
            default: throw new IllegalStateException(act);
        }
    }

    private int type(int g, int b) {
        range(g, 0, 2);
        range(b, 0, 255);
        if (menus[g].length() == 24) {
            throw new Refusal(-4);
        }
        menus[g] += (char) b;
        return menus[g].length();
    }

    private int wipe(int g) {
        range(g, 0, 2);
        int had = menus[g].length();
        menus[g] = "";
        return had;
    }

    private int fault(int g) {
        range(g, 0, 2);
        String clean = menus[g].replaceFirst("(?s)^[nbcvfsh]*", "");
        return clean.isEmpty() ? -1 : menus[g].length() - clean.length();
    }

    private int undo(int g) {
        range(g, 0, 2);
        if (menus[g].isEmpty()) {
            throw new Refusal(-3);
        }
        menus[g] = menus[g].substring(0, menus[g].length() - 1);
        return menus[g].length();
    }

    private int calm(int g, int v) {
        range(g, 0, 2);
        range(v, 0, 9);
        return swap(calms, g, v);
    }

    private static int swap(int[] row, int i, int v) {
        int was = row[i];
        row[i] = v;
        return was;
    }

    private int set(int what, int v) {
        range(what, 0, 2);
        int was = what == 0 ? mark : what == 1 ? law : forbidden;
        if (what == 0) {
            range(v, 1, 10);
            mark = v;
        } else if (what == 1) {
            range(v, 0, 2);
            law = v;
        } else {
            range(v, 0, 126);
            need((v & 1) == 0);
            forbidden = v;
        }
        return was;
    }

    private String told(int g) {
        return menus[g].matches("[nbcvfsh]*") ? menus[g] : "";
    }

    private String full(int g) {
        return (told(g) + "n".repeat(24)).substring(0, 24);
    }

    /** The level ahead of hour 0, then that of each hour. */
    private int[] levels(String menu, int calm) {
        int[] row = new int[menu.length() + 1];
        row[0] = calm;
        for (int k = 0; k < menu.length(); k++) {
            row[k + 1] = next(row[k], LETTERS.indexOf(menu.charAt(k)));
        }
        return row;
    }

    private int next(int level, int dish) {
        int moved = level + effects[dish];
        return moved < 0 ? 0 : moved > 9 ? 9 : moved;
    }

    private boolean[] hic(String menu, int calm) {
        boolean[] row = new boolean[menu.length()];
        int[] levels = levels(menu, calm);
        for (int k = 0; k < row.length; k++) {
            row[k] = levels[k + 1] >= mark && menu.charAt(k) != 's';
        }
        return row;
    }

    private boolean[] hic(int g) {
        return hic(full(g), calms[g]);
    }

    private static int bits(boolean[] row) {
        int bits = 0;
        for (int k = row.length - 1; k >= 0; k--) {
            bits = bits * 2 + (row[k] ? 1 : 0);
        }
        return bits;
    }

    private boolean[] broken(int by) {
        boolean[] a = hic(0);
        boolean[] b = hic(1);
        boolean[] row = new boolean[24];
        for (int h = 0; h < 24; h++) {
            boolean both = a[h] && b[h];
            boolean crossed = h > 0 && (a[h] && b[h - 1] || b[h] && a[h - 1]);
            row[h] = by == 0 ? both : by == 1 ? a[h] || b[h] : both || crossed;
        }
        return row;
    }

    private int judged() {
        boolean[] row = broken(law);
        for (int h = 0; h < 24; h++) {
            if (row[h]) {
                return h;
            }
        }
        return -1;
    }

    private int[] armistice() {
        boolean[] row = broken(law);
        int[] best = {-1, 0};
        for (int from = 0; from < 24; from++) {
            int to = from;
            while (to < 24 && !row[to]) {
                to++;
            }
            if (to - from > best[1]) {
                best = new int[] {from, to - from};
            }
        }
        return best;
    }

    private int led(int g, int hour) {
        range(g, 0, 2);
        range(hour, 0, 23);
        if (!hic(g)[hour]) {
            throw new Refusal(-3);
        }
        int[] levels = levels(full(g), calms[g]);
        int since = hour + 1;
        while (since > 0 && levels[since - 1] >= mark) {
            since--;
        }
        return since - 1;
    }

    private long odds(int hour, int n, int what) {
        range(hour, 0, 23);
        range(n, 0, 7);
        need(hour + n <= 24);
        range(what, 0, 1);
        BigInteger above = BigInteger.ONE;
        BigInteger below = BigInteger.ONE;
        for (int h = hour; h < hour + n; h++) {
            int one = full(0).charAt(h) == 's' ? 0 : levels(full(0), calms[0])[h + 1];
            int other = full(1).charAt(h) == 's' ? 0 : levels(full(1), calms[1])[h + 1];
            int free = 0;
            for (int lots = 0; lots < 256; lots++) {
                free += lots / 16 < one && lots % 16 < other ? 0 : 1;
            }
            above = above.multiply(BigInteger.valueOf(free));
            below = below.multiply(BigInteger.valueOf(256));
        }
        BigInteger common = above.gcd(below);
        return (what == 0 ? above : below).divide(common).longValueExact();
    }

    private int heard(int g, int seed) {
        range(g, 0, 2);
        BigInteger wrap = BigInteger.ONE.shiftLeft(32);
        BigInteger state = BigInteger.valueOf(seed).mod(wrap);
        String menu = full(g);
        int[] levels = levels(menu, calms[g]);
        boolean[] row = new boolean[24];
        for (int draw = 0; draw < 72; draw++) {
            state = state.multiply(BigInteger.valueOf(1103515245)).add(BigInteger.valueOf(12345)).mod(wrap);
            int lot = state.shiftRight(16).intValueExact() % 16;
            int h = draw / 3;
            if (draw % 3 == g && menu.charAt(h) != 's') {
                row[h] = lot < levels[h + 1];
            }
        }
        return bits(row);
    }

    private boolean served(int dish) {
        return (forbidden / (1 << dish)) % 2 == 0;
    }

    /** The best row from an hour on, as its cost and its dishes, or null. */
    private Object[] best(int hour, int to, int level, boolean[] other, Map<Integer, Object[]> known) {
        if (hour > to) {
            return new Object[] {0, ""};
        }
        int key = hour * 10 + level;
        if (known.containsKey(key)) {
            return known.get(key);
        }
        Object[] best = null;
        for (int dish = 6; dish >= 0; dish--) {
            int after = next(level, dish);
            boolean he = after >= mark && dish != 5;
            boolean breaks = law == 1 ? he || other[hour] : he && other[hour];
            Object[] rest = served(dish) && !breaks ? best(hour + 1, to, after, other, known) : null;
            if (rest != null) {
                Object[] row = {(Integer) rest[0] + prices[dish], dish + (String) rest[1]};
                best = best == null || before(row, best) ? row : best;
            }
        }
        known.put(key, best);
        return best;
    }

    private static boolean before(Object[] a, Object[] b) {
        int byCost = Integer.compare((Integer) a[0], (Integer) b[0]);
        return byCost < 0 || byCost == 0 && ((String) a[1]).compareTo((String) b[1]) < 0;
    }

    private int quiet(int g, int from, int to, int i) {
        range(g, 0, 1);
        range(from, 0, 23);
        range(to, from, 23);
        range(i, -1, to - from);
        Object[] best = best(from, to, levels(full(g), calms[g])[from], hic(1 - g), new HashMap<>());
        if (best == null) {
            return -1;
        }
        return i == -1 ? (Integer) best[0] : ((String) best[1]).charAt(i) - '0';
    }

    private int firstDish(int left, int peace, int war, Map<Integer, Integer> known) {
        if (left == 0) {
            return -1;
        }
        int key = left * 100 + peace * 10 + war;
        Integer had = known.get(key);
        if (had != null) {
            return had;
        }
        int first = -1;
        for (int w = 6; w >= 0; w--) {
            boolean wins = served(w);
            for (int p = 0; p < 7 && wins; p++) {
                int a = next(peace, p);
                int b = next(war, w);
                boolean both = a >= mark && b >= mark && p != 5 && w != 5;
                wins = !served(p) || both || firstDish(left - 1, a, b, known) >= 0;
            }
            first = wins ? w : first;
        }
        known.put(key, first);
        return first;
    }

    private int force(int hour, int n, int what) {
        range(hour, 0, 23);
        range(n, 1, 12);
        need(hour + n <= 24);
        range(what, 0, 1);
        int first = firstDish(n, levels(full(0), calms[0])[hour], levels(full(1), calms[1])[hour], new HashMap<>());
        return what == 1 ? first : first >= 0 ? 1 : 0;
    }

    private int seen(int g, int hour, int is) {
        range(g, 0, 2);
        range(hour, 0, 23);
        range(is, 0, 1);
        if (sightings.size() == 8) {
            throw new Refusal(-4);
        }
        sightings.add(new int[] {g, hour, is});
        return sightings.size();
    }

    private int forget() {
        int had = sightings.size();
        sightings.clear();
        return had;
    }

    private long unlikeOf(int g, boolean[] row) {
        return sightings.stream().filter(s -> s[0] == g && row[s[1]] != (s[2] == 1)).count();
    }

    private int fright(int g) {
        range(g, 0, 2);
        String menu = full(g);
        boolean[] row = new boolean[24];
        for (int h = 0; h < 24; h++) {
            String had = menu.substring(0, h) + "f" + menu.substring(h + 1);
            row[h] = unlikeOf(g, hic(had, calms[g])) == 0;
        }
        return bits(row);
    }

    private long unlike() {
        return unlikeOf(0, hic(0)) + unlikeOf(1, hic(1)) + unlikeOf(2, hic(2));
    }

    private int parrot(int g) {
        range(g, 0, 1);
        boolean[] his = hic(g);
        boolean[] other = hic(1 - g);
        boolean[] row = new boolean[24];
        for (int h = 1; h < 24; h++) {
            row[h] = his[h - 1] && other[h] && !his[h];
        }
        return bits(row);
    }

    private int[] trained(int g) {
        int[] found = {0, -1, 0};
        boolean[] model = hic(g);
        String menu = full(2);
        for (int k = 0; k < 24; k++) {
            boolean[] his = hic(("n".repeat(k) + menu).substring(0, 24), calms[2]);
            int like = 0;
            for (int h = 0; h < 24; h++) {
                like += his[h] == model[h] ? 1 : 0;
            }
            found[0] = k == 0 ? like : found[0];
            if (like > found[1]) {
                found[1] = like;
                found[2] = k;
            }
        }
        return found;
    }

    private int sheet(int s, int form, int n) {
        range(s, 0, 3);
        range(form, 0, 2);
        range(n, Integer.MIN_VALUE, 48);
        sheets[s] = form == 0 ? new byte[n] : form == 1 ? new short[n] : new int[n];
        return n;
    }

    private static int sizeOf(Object row) {
        return java.lang.reflect.Array.getLength(row);
    }

    private int lose(int s) {
        range(s, 0, 3);
        int had = sizeOf(sheets[s]);
        sheets[s] = null;
        return had;
    }

    private int put(int s, int form, int i, int v) {
        range(s, 0, 3);
        range(form, 0, 2);
        if (form == 0) {
            ((byte[]) sheets[s])[i] = (byte) v;
        } else if (form == 1) {
            ((short[]) sheets[s])[i] = (short) v;
        } else {
            ((int[]) sheets[s])[i] = v;
        }
        return 1;
    }

    private int get(int s, int form, int i) {
        range(s, 0, 3);
        range(form, 0, 2);
        return form == 0 ? ((byte[]) sheets[s])[i] : form == 1 ? ((short[]) sheets[s])[i] : ((int[]) sheets[s])[i];
    }

    private int copy(int s, int i, int t, int j, int n) {
        range(s, 0, 3);
        range(t, 0, 3);
        System.arraycopy(sheets[s], i, sheets[t], j, n);
        return 1;
    }

    private int itemOf(Object row, int i) {
        return java.lang.reflect.Array.getInt(row instanceof int[] ? row : widened(row), i);
    }

    private static int[] widened(Object row) {
        int[] wide = new int[sizeOf(row)];
        for (int k = 0; k < wide.length; k++) {
            wide[k] = row instanceof byte[] ? ((byte[]) row)[k] : ((short[]) row)[k];
        }
        return wide;
    }

    private int read(int s, int g) {
        range(s, 0, 3);
        range(g, 0, 2);
        int size = Math.min(24, sizeOf(sheets[s]));
        StringBuilder text = new StringBuilder();
        for (int k = 0; k < size; k++) {
            int dish = itemOf(sheets[s], k);
            if (dish < 0 || dish > 6) {
                break;
            }
            text.append(LETTERS.charAt(dish));
        }
        menus[g] = text.toString();
        return menus[g].length();
    }

    private int write(int g, int s) {
        range(g, 0, 2);
        range(s, 0, 3);
        int size = Math.min(24, sizeOf(sheets[s]));
        int form = sheets[s] instanceof byte[] ? 0 : sheets[s] instanceof short[] ? 1 : 2;
        int[] levels = levels(full(g), calms[g]);
        for (int k = 0; k < size; k++) {
            put(s, form, k, levels[k + 1]);
        }
        return size;
    }

    private int count(int what) {
        range(what, 0, 8);
        int cost = (told(0) + told(1)).chars().map(c -> prices[LETTERS.indexOf(c)]).sum();
        int ban = Integer.toBinaryString(forbidden).replace("0", "").length();
        int[] counts = {told(0).length(), told(1).length(), told(2).length(), mark, law, sightings.size(), cost, ban,
            latest};
        return counts[what];
    }

    private long digest() {
        long h = 17;
        for (String row : Acts.DIGESTED) {
            h = h * 31 + answer(Acts.name(row), Acts.numbers(row));
        }
        return h;
    }
}
