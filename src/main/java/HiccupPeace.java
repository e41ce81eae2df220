/** A treaty that holds as long as two old generals do not hiccup in one hour. */
public final class HiccupPeace {
    public static final int NONE = -1, BAD = -2, NOT = -3, FULL = -4;

    private static final int GENERALS = 3, TRAINEE = 2;
    private static final int HOURS = 24;
    private static final int LEVELS = 10, HIGHEST_MARK = 10;
    private static final int DISHES = 7, NOTHING = 0, SCARE = 4, SLEEP = 5;
    private static final int[] LETTERS = {'n', 'b', 'c', 'v', 'f', 's', 'h'};
    private static final int LAWS = 3, LAW_EITHER = 1, LAW_HOUR_AHEAD = 2;
    private static final int ALL_BUT_NOTHING = 126;
    private static final int DEAREST = 99, BEYOND_ALL_COSTS = 1000000;
    private static final int LOT_SIDES = 16, HALVINGS_AN_HOUR = 8;
    private static final int MOST_ODDS_HOURS = 7, MOST_WAR_HOURS = 12;
    private static final int MOST_SIGHTINGS = 8;
    private static final int SHEETS = 4, MOST_ITEMS = 48;
    private static final int FORMS = 3, FORM_BYTES = 0, FORM_SHORTS = 1;
    private static final int FOUND_NULL = 1, FOUND_INDEX = 2, FOUND_CAST = 3, FOUND_STORE = 4, FOUND_SIZE = 5;
    private static final int ANY_NUMBER_REFUSED = -100;
    private static final int LEAST_INT = -2147483648;
    private static final long LEAST_LONG = -9223372036854775808L;

    private final General[] generals = new General[GENERALS];
    private final Day[] days = new Day[GENERALS];
    private final Sheet[] sheets = new Sheet[SHEETS];
    private final Rules rules = new Rules();
    private final Sightings sightings = new Sightings();
    private final Day guess = new Day();
    private final Planner planner = new Planner();
    private final War war = new War();
    private int latestFinding = 0;

    public HiccupPeace() {
        for (int g = 0; g < GENERALS; g++) {
            generals[g] = new General();
            days[g] = new Day();
        }
        for (int s = 0; s < SHEETS; s++) {
            sheets[s] = new Sheet();
        }
    }

    // ---- menus, law

    public int type(int general, int b) {
        if (!isGeneral(general) || !within(b, 0, 255)) {
            return BAD;
        }
        return generals[general].append(dishOfLetter(b));
    }

    public int wipe(int general) {
        if (!isGeneral(general)) {
            return BAD;
        }
        return generals[general].clearMenu();
    }

    public int fault(int general) {
        if (!isGeneral(general)) {
            return BAD;
        }
        return generals[general].faultPlace;
    }

    public int undo(int general) {
        if (!isGeneral(general)) {
            return BAD;
        }
        return generals[general].dropLast();
    }

    public int calm(int general, int v) {
        if (!isGeneral(general) || !within(v, 0, LEVELS - 1)) {
            return BAD;
        }
        int was = generals[general].calmLevel;
        generals[general].calmLevel = v;
        return was;
    }

    public int does(int dish, int v) {
        if (!isDish(dish) || !within(v, -9, 9)) {
            return ANY_NUMBER_REFUSED + BAD;
        }
        int was = rules.effects[dish];
        rules.effects[dish] = v;
        return was;
    }

    public int set(int what, int v) {
        if (what == 0) {
            return setMark(v);
        }
        if (what == 1) {
            return setLaw(v);
        }
        if (what == 2) {
            return setForbidden(v);
        }
        return BAD;
    }

    public int price(int dish, int v) {
        if (!isDish(dish) || !within(v, 0, DEAREST)) {
            return BAD;
        }
        int was = rules.prices[dish];
        rules.prices[dish] = v;
        return was;
    }

    public int read(int s, int general) {
        if (!isSheet(s) || !isGeneral(general)) {
            return BAD;
        }
        Sheet from = sheets[s];
        if (from.lost) {
            return finding(FOUND_NULL);
        }
        return generals[general].takeMenu(from);
    }

    // ---- hours

    public int dish(int general, int hour) {
        if (!isGeneral(general) || !isHour(hour)) {
            return BAD;
        }
        return dayOf(general).dishes[hour];
    }

    public int level(int general, int hour) {
        if (!isGeneral(general) || !isHour(hour)) {
            return BAD;
        }
        return dayOf(general).levels[hour];
    }

    public int hiccups(int general) {
        if (!isGeneral(general)) {
            return BAD;
        }
        return hoursOf(general);
    }

    public int broken(int law) {
        if (!within(law, 0, LAWS - 1)) {
            return BAD;
        }
        return brokenHours(law);
    }

    public int judged() {
        int hours = brokenHours(rules.lawTold);
        for (int hour = 0; hour < HOURS; hour++) {
            if (hasHour(hours, hour)) {
                return hour;
            }
        }
        return NONE;
    }

    public int armistice(int what) {
        if (!within(what, 0, 1)) {
            return BAD;
        }
        int hours = brokenHours(rules.lawTold);
        int bestStart = NONE;
        int bestLength = 0;
        int length = 0;
        for (int hour = 0; hour < HOURS; hour++) {
            length = hasHour(hours, hour) ? 0 : length + 1;
            if (length > bestLength) {
                bestLength = length;
                bestStart = hour - length + 1;
            }
        }
        return what == 0 ? bestStart : bestLength;
    }

    public int led(int general, int hour) {
        if (!isGeneral(general) || !isHour(hour)) {
            return BAD;
        }
        Day day = dayOf(general);
        if (!rules.hiccupsAt(day.levels[hour], day.dishes[hour])) {
            return NOT;
        }
        for (int at = hour; at >= 0; at--) {
            if (day.levelAhead(at) < rules.mark) {
                return at;
            }
        }
        return NONE;
    }

    public long odds(int hour, int n, int what) {
        if (!isHour(hour) || !within(n, 0, MOST_ODDS_HOURS) || hour + n > HOURS || !within(what, 0, 1)) {
            return LEAST_LONG - BAD;
        }
        Day one = dayOf(0);
        Day other = dayOf(1);
        long above = 1;
        long below = 1;
        for (int at = hour; at < hour + n; at++) {
            above *= LOT_SIDES * LOT_SIDES - one.chanceAt(at) * other.chanceAt(at);
            below *= LOT_SIDES * LOT_SIDES;
        }
        // what stands below is a power of two, so halving is all that lowest terms need
        for (int halved = 0; halved < n * HALVINGS_AN_HOUR && above % 2 == 0; halved++) {
            above /= 2;
            below /= 2;
        }
        return what == 0 ? above : below;
    }

    public int heard(int general, int seed) {
        if (!isGeneral(general)) {
            return BAD;
        }
        Day day = dayOf(general);
        int hours = 0;
        int drawn = seed;
        for (int hour = 0; hour < HOURS; hour++) {
            for (int g = 0; g < GENERALS; g++) {
                drawn = 1103515245 * drawn + 12345;
                int lot = (drawn >>> 16) % LOT_SIDES;
                if (g == general && lot < day.chanceAt(hour)) {
                    hours |= 1 << hour;
                }
            }
        }
        return hours;
    }

    // ---- menus that keep the peace

    public int quiet(int general, int from, int to, int i) {
        if (!isSide(general) || !isHour(from) || !isHour(to) || from > to) {
            return BAD;
        }
        if (!within(i, NONE, to - from)) {
            return BAD;
        }
        int start = dayOf(general).levelAhead(from);
        planner.plan(rules, hoursOf(1 - general), from, to);
        if (planner.costFrom(from, start) >= BEYOND_ALL_COSTS) {
            return NONE;
        }
        if (i == NONE) {
            return planner.costFrom(from, start);
        }
        return planner.dishAfter(rules, from, start, i);
    }

    public int force(int hour, int n, int what) {
        if (!isHour(hour) || !within(n, 1, MOST_WAR_HOURS) || hour + n > HOURS || !within(what, 0, 1)) {
            return BAD;
        }
        int peaceLevel = dayOf(0).levelAhead(hour);
        int warLevel = dayOf(1).levelAhead(hour);
        war.weigh(rules, n - 1);
        int first = war.firstDish(rules, peaceLevel, warLevel, n);
        if (what == 1) {
            return first;
        }
        return first == NONE ? 0 : 1;
    }

    // ---- what was seen

    public int seen(int general, int hour, int is) {
        if (!isGeneral(general) || !isHour(hour) || !within(is, 0, 1)) {
            return BAD;
        }
        return sightings.add(general, hour, is);
    }

    public int forget() {
        int had = sightings.size;
        sightings.size = 0;
        return had;
    }

    public int fright(int general) {
        if (!isGeneral(general)) {
            return BAD;
        }
        guess.lay(generals[general], 0);
        int hours = 0;
        for (int hour = 0; hour < HOURS; hour++) {
            int told = guess.dishes[hour];
            guess.dishes[hour] = SCARE;
            guess.live(rules);
            int heardIn = guess.hiccupHours(rules);
            guess.dishes[hour] = told;
            if (sightings.unlikeOf(general, heardIn) == 0) {
                hours |= 1 << hour;
            }
        }
        return hours;
    }

    public int unlike() {
        int sum = 0;
        for (int g = 0; g < GENERALS; g++) {
            sum += sightings.unlikeOf(g, hoursOf(g));
        }
        return sum;
    }

    public int parrot(int general) {
        if (!isSide(general)) {
            return BAD;
        }
        int his = hoursOf(general);
        return (his << 1) & hoursOf(1 - general) & ~his;
    }

    public int trained(int general, int what) {
        if (!isSide(general) || !within(what, 0, 2)) {
            return BAD;
        }
        int model = hoursOf(general);
        if (what == 0) {
            return likeHours(model, 0);
        }
        int most = NONE;
        int bestDelay = 0;
        for (int delay = 0; delay < HOURS; delay++) {
            int like = likeHours(model, delay);
            if (like > most) {
                most = like;
                bestDelay = delay;
            }
        }
        return what == 1 ? most : bestDelay;
    }

    // ---- sheets

    public int sheet(int s, int form, int n) {
        if (!isSheet(s) || !isForm(form) || n > MOST_ITEMS) {
            return BAD;
        }
        if (n < 0) {
            return finding(FOUND_SIZE);
        }
        sheets[s].renew(form, n);
        return n;
    }

    public int lose(int s) {
        if (!isSheet(s)) {
            return BAD;
        }
        if (sheets[s].lost) {
            return finding(FOUND_NULL);
        }
        sheets[s].lost = true;
        return sheets[s].size;
    }

    public int put(int s, int form, int i, int v) {
        if (!isSheet(s) || !isForm(form)) {
            return BAD;
        }
        int found = sheets[s].findingAt(form, i);
        if (found != 0) {
            return finding(found);
        }
        sheets[s].store(i, v);
        return 1;
    }

    public int get(int s, int form, int i) {
        if (!isSheet(s) || !isForm(form)) {
            return LEAST_INT;
        }
        int found = sheets[s].findingAt(form, i);
        if (found != 0) {
            latestFinding = found;
            return LEAST_INT;
        }
        return sheets[s].items[i];
    }

    public int copy(int s, int i, int t, int j, int n) {
        if (!isSheet(s) || !isSheet(t)) {
            return BAD;
        }
        Sheet from = sheets[s];
        Sheet to = sheets[t];
        if (from.lost || to.lost) {
            return finding(FOUND_NULL);
        }
        if (from.form != to.form) {
            return finding(FOUND_STORE);
        }
        if (!from.hasItems(i, n) || !to.hasItems(j, n)) {
            return finding(FOUND_INDEX);
        }
        System.arraycopy(from.items, i, to.items, j, n);
        return 1;
    }

    public int write(int general, int s) {
        if (!isGeneral(general) || !isSheet(s)) {
            return BAD;
        }
        Sheet to = sheets[s];
        if (to.lost) {
            return finding(FOUND_NULL);
        }
        Day day = dayOf(general);
        int n = Math.min(to.size, HOURS);
        for (int hour = 0; hour < n; hour++) {
            to.store(hour, day.levels[hour]);
        }
        return n;
    }

    public int count(int what) {
        switch (what) {
            case 0:
            case 1:
            case 2:
                return generals[what].dishesTold();
            case 3:
                return rules.mark;
            case 4:
                return rules.lawTold;
            case 5:
                return sightings.size;
            case 6:
                return pricesTold(0) + pricesTold(1);
            case 7:
                return Integer.bitCount(rules.forbidden);
            case 8:
                return latestFinding;
            default:
                return BAD;
        }
    }

    public long digest() {
        long h = 17;
        for (int what = 0; what <= 7; what++) {
            h = 31 * h + count(what);
        }
        for (int g = 0; g < GENERALS; g++) {
            h = 31 * h + fault(g);
            h = 31 * h + hiccups(g);
            h = 31 * h + level(g, 0);
            h = 31 * h + level(g, 9);
            h = 31 * h + level(g, 23);
            h = 31 * h + heard(g, 7);
            h = 31 * h + fright(g);
        }
        for (int law = 0; law < LAWS; law++) {
            h = 31 * h + broken(law);
        }
        h = 31 * h + judged();
        h = 31 * h + armistice(0);
        h = 31 * h + armistice(1);
        h = 31 * h + odds(4, 5, 0);
        h = 31 * h + odds(4, 5, 1);
        for (int g = 0; g < TRAINEE; g++) {
            h = 31 * h + quiet(g, 2, 9, NONE);
            h = 31 * h + quiet(g, 2, 9, 0);
        }
        h = 31 * h + force(3, 6, 0);
        h = 31 * h + force(3, 6, 1);
        h = 31 * h + unlike();
        h = 31 * h + parrot(0);
        h = 31 * h + parrot(1);
        for (int what = 0; what <= 2; what++) {
            h = 31 * h + trained(0, what);
        }
        return h;
    }

    // ---- what the acts share

    private static boolean within(int v, int least, int most) {
        return v >= least && v <= most;
    }

    private static boolean isGeneral(int general) {
        return within(general, 0, GENERALS - 1);
    }

    /** Whether he is one of the two between whom the treaty stands. */
    private static boolean isSide(int general) {
        return within(general, 0, TRAINEE - 1);
    }

    private static boolean isHour(int hour) {
        return within(hour, 0, HOURS - 1);
    }

    private static boolean isDish(int dish) {
        return within(dish, 0, DISHES - 1);
    }

    private static boolean isSheet(int s) {
        return within(s, 0, SHEETS - 1);
    }

    private static boolean isForm(int form) {
        return within(form, 0, FORMS - 1);
    }

    private static boolean hasHour(int hours, int hour) {
        return ((hours >> hour) & 1) == 1;
    }

    private static int dishOfLetter(int b) {
        for (int dish = 0; dish < DISHES; dish++) {
            if (LETTERS[dish] == b) {
                return dish;
            }
        }
        return NONE;
    }

    private int finding(int number) {
        latestFinding = number;
        return -10 - number;
    }

    private int setMark(int v) {
        if (!within(v, 1, HIGHEST_MARK)) {
            return BAD;
        }
        int was = rules.mark;
        rules.mark = v;
        return was;
    }

    private int setLaw(int v) {
        if (!within(v, 0, LAWS - 1)) {
            return BAD;
        }
        int was = rules.lawTold;
        rules.lawTold = v;
        return was;
    }

    private int setForbidden(int v) {
        if (!within(v, 0, ALL_BUT_NOTHING) || v % 2 != 0) {
            return BAD;
        }
        int was = rules.forbidden;
        rules.forbidden = v;
        return was;
    }

    private Day dayOf(int general) {
        Day day = days[general];
        day.lay(generals[general], 0);
        day.live(rules);
        return day;
    }

    private int hoursOf(int general) {
        return dayOf(general).hiccupHours(rules);
    }

    private int brokenHours(int law) {
        int one = hoursOf(0);
        int other = hoursOf(1);
        if (law == LAW_EITHER) {
            return one | other;
        }
        if (law == LAW_HOUR_AHEAD) {
            return (one & other) | (one & (other << 1)) | (other & (one << 1));
        }
        return one & other;
    }

    private int likeHours(int model, int delay) {
        guess.lay(generals[TRAINEE], delay);
        guess.live(rules);
        return HOURS - Integer.bitCount(model ^ guess.hiccupHours(rules));
    }

    private int pricesTold(int general) {
        General whose = generals[general];
        int told = whose.dishesTold();
        int sum = 0;
        for (int place = 0; place < told; place++) {
            sum += rules.priceOf(whose.dishAt(place));
        }
        return sum;
    }

    /** What one general is given, as it was told, and his level ahead of hour 0. */
    private static final class General {
        /** The dish of each byte; NONE where it is no letter, for nothing asks which byte that was. */
        final int[] menu = new int[HOURS];
        int size = 0;
        int faultPlace = NONE;
        int calmLevel = 3;

        int append(int dish) {
            if (size >= HOURS) {
                return FULL;
            }
            if (dish == NONE && faultPlace == NONE) {
                faultPlace = size;
            }
            menu[size] = dish;
            size++;
            return size;
        }

        int clearMenu() {
            int had = size;
            size = 0;
            faultPlace = NONE;
            return had;
        }

        int dropLast() {
            if (size == 0) {
                return NOT;
            }
            size--;
            if (faultPlace == size) {
                faultPlace = NONE;
            }
            return size;
        }

        int takeMenu(Sheet from) {
            clearMenu();
            int most = Math.min(from.size, HOURS);
            for (int i = 0; i < most && isDish(from.items[i]); i++) {
                append(from.items[i]);
            }
            return size;
        }

        int dishesTold() {
            return faultPlace == NONE ? size : 0;
        }

        int dishAt(int place) {
            return place >= 0 && place < size ? menu[place] : NOTHING;
        }
    }

    /** What holds for all generals alike. */
    private static final class Rules {
        final int[] effects = {0, 1, 3, -4, -9, -1, -2};
        final int[] prices = {0, 2, 9, 3, 1, 0, 5};
        int mark = 5;
        int lawTold = 0;
        int forbidden = 0;

        int levelAfter(int level, int dish) {
            int moved = dish >= 0 && dish < DISHES ? level + effects[dish] : level;
            if (moved < 0) {
                return 0;
            }
            return moved < LEVELS ? moved : LEVELS - 1;
        }

        boolean hiccupsAt(int level, int dish) {
            return level >= mark && dish != SLEEP;
        }

        boolean mayServe(int dish) {
            return ((forbidden >> dish) & 1) == 0;
        }

        int priceOf(int dish) {
            return isDish(dish) ? prices[dish] : 0;
        }
    }

    /** One general's hours: each with its dish and the level that it leads to. */
    private static final class Day {
        final int[] dishes = new int[HOURS];
        final int[] levels = new int[HOURS];
        int startLevel = 0;

        void lay(General whose, int delay) {
            int told = whose.dishesTold();
            for (int hour = 0; hour < HOURS; hour++) {
                dishes[hour] = hour - delay < told ? whose.dishAt(hour - delay) : NOTHING;
            }
            startLevel = whose.calmLevel;
        }

        void live(Rules rules) {
            int level = startLevel;
            for (int hour = 0; hour < HOURS; hour++) {
                level = rules.levelAfter(level, dishes[hour]);
                levels[hour] = level;
            }
        }

        int levelAhead(int hour) {
            return hour > 0 && hour <= HOURS ? levels[hour - 1] : startLevel;
        }

        int hiccupHours(Rules rules) {
            int hours = 0;
            for (int hour = 0; hour < HOURS; hour++) {
                if (rules.hiccupsAt(levels[hour], dishes[hour])) {
                    hours |= 1 << hour;
                }
            }
            return hours;
        }

        /** Of sixteen lots, those by which he hiccups. */
        int chanceAt(int hour) {
            return isHour(hour) && dishes[hour] != SLEEP ? levels[hour] : 0;
        }
    }

    /** The cheapest ways to serve one general, from each hour and level on. */
    private static final class Planner {
        final int[] costs = new int[(HOURS + 1) * LEVELS];
        final int[] firstDishes = new int[HOURS * LEVELS];

        /** Goes from the last hour back, so that each hour's least dish leads to the least row. */
        void plan(Rules rules, int otherHours, int from, int to) {
            for (int level = 0; level < LEVELS; level++) {
                costs[(to + 1) * LEVELS + level] = 0;
            }
            for (int hour = to; hour >= from; hour--) {
                boolean other = hasHour(otherHours, hour);
                for (int level = 0; level < LEVELS; level++) {
                    planState(rules, other, hour, level);
                }
            }
        }

        private void planState(Rules rules, boolean other, int hour, int level) {
            int best = BEYOND_ALL_COSTS;
            int bestDish = NOTHING;
            for (int dish = 0; dish < DISHES; dish++) {
                int next = rules.levelAfter(level, dish);
                boolean hiccup = rules.hiccupsAt(next, dish);
                if (!rules.mayServe(dish) || breaks(rules, hiccup, other)) {
                    continue;
                }
                int cost = rules.priceOf(dish) + costs[(hour + 1) * LEVELS + next];
                if (cost < best) {
                    best = cost;
                    bestDish = dish;
                }
            }
            costs[hour * LEVELS + level] = best;
            firstDishes[hour * LEVELS + level] = bestDish;
        }

        private static boolean breaks(Rules rules, boolean one, boolean other) {
            return rules.lawTold == LAW_EITHER ? one || other : one && other;
        }

        int costFrom(int hour, int level) {
            return costs[hour * LEVELS + level];
        }

        int dishAfter(Rules rules, int from, int startLevel, int hoursOn) {
            int level = startLevel;
            for (int hour = from; hour < from + hoursOn; hour++) {
                level = rules.levelAfter(level, firstDishes[hour * LEVELS + level]);
            }
            return firstDishes[(from + hoursOn) * LEVELS + level];
        }
    }

    /** Who wants war serves general 1, then who wants peace serves general 0. */
    private static final class War {
        /** By both levels: the fewest hours in which war can be forced; 0: not within the hours weighed. */
        final int[] hoursNeeded = new int[LEVELS * LEVELS];

        void weigh(Rules rules, int mostHours) {
            for (int state = 0; state < LEVELS * LEVELS; state++) {
                hoursNeeded[state] = 0;
            }
            boolean more = true;
            // once an hour more wins nothing new, no later hour does
            for (int hours = 1; hours <= mostHours && more; hours++) {
                more = weighHour(rules, hours);
            }
        }

        private boolean weighHour(Rules rules, int hours) {
            boolean more = false;
            for (int state = 0; state < LEVELS * LEVELS; state++) {
                if (hoursNeeded[state] == 0
                        && firstDish(rules, state / LEVELS, state % LEVELS, hours) != NONE) {
                    hoursNeeded[state] = hours;
                    more = true;
                }
            }
            return more;
        }

        /** The least dish by which war is forced within so many hours; fewer have been weighed. */
        int firstDish(Rules rules, int peaceLevel, int warLevel, int hours) {
            for (int dish = 0; dish < DISHES; dish++) {
                if (rules.mayServe(dish) && forces(rules, peaceLevel, warLevel, dish, hours)) {
                    return dish;
                }
            }
            return NONE;
        }

        private boolean forces(Rules rules, int peaceLevel, int warLevel, int warDish, int hours) {
            int warNext = rules.levelAfter(warLevel, warDish);
            boolean warHiccup = rules.hiccupsAt(warNext, warDish);
            for (int dish = 0; dish < DISHES; dish++) {
                int peaceNext = rules.levelAfter(peaceLevel, dish);
                boolean both = warHiccup && rules.hiccupsAt(peaceNext, dish);
                if (rules.mayServe(dish) && !both && !wonWithin(peaceNext, warNext, hours - 1)) {
                    return false;
                }
            }
            return true;
        }

        private boolean wonWithin(int peaceLevel, int warLevel, int hours) {
            int needed = hoursNeeded[peaceLevel * LEVELS + warLevel];
            return needed > 0 && needed <= hours;
        }
    }

    /** Who was seen to hiccup, or not to, and in which hour. */
    private static final class Sightings {
        final int[] whom = new int[MOST_SIGHTINGS];
        final int[] when = new int[MOST_SIGHTINGS];
        final int[] hiccuped = new int[MOST_SIGHTINGS];
        int size = 0;

        int add(int general, int hour, int is) {
            if (size >= MOST_SIGHTINGS) {
                return FULL;
            }
            whom[size] = general;
            when[size] = hour;
            hiccuped[size] = is;
            size++;
            return size;
        }

        int unlikeOf(int general, int hours) {
            int sum = 0;
            for (int k = 0; k < size; k++) {
                if (whom[k] == general && hasHour(hours, when[k]) != (hiccuped[k] == 1)) {
                    sum++;
                }
            }
            return sum;
        }
    }

    /** A row of bytes, shorts or ints, or nothing at all. */
    private static final class Sheet {
        final int[] items = new int[MOST_ITEMS];
        int form = FORM_BYTES;
        int size = 0;
        boolean lost = true;

        void renew(int newForm, int newSize) {
            for (int i = 0; i < MOST_ITEMS; i++) {
                items[i] = 0;
            }
            form = newForm;
            size = newSize;
            lost = false;
        }

        /** What stands against treating item i as of a form; 0: nothing. */
        int findingAt(int wantedForm, int i) {
            if (lost) {
                return FOUND_NULL;
            }
            if (form != wantedForm) {
                return FOUND_CAST;
            }
            return hasItems(i, 1) ? 0 : FOUND_INDEX;
        }

        /** Whether n items from i on are there; told so that no sum can wrap. */
        boolean hasItems(int i, int n) {
            return i >= 0 && n >= 0 && i <= size && n <= size - i;
        }

        void store(int i, int v) {
            if (!hasItems(i, 1)) {
                return;
            }
            if (form == FORM_BYTES) {
                items[i] = (byte) v;
            } else if (form == FORM_SHORTS) {
                items[i] = (short) v;
            } else {
                items[i] = v;
            }
        }
    }
}
