/**
 * A desk of happenings: clicks with a time, a name or a passing mark, cut into sittings, led
 * through funnels and counted by weeks. Whatever changes the clicks, the joins or the rules has
 * all rows laid anew, so that what comes late is as if it had been known before.
 */
public final class SittingDesk {
    public static final int NONE = -1, UNKNOWN = -1001, OUTSIDE = -1002, NOT = -1003, FULL = -1004;

    private static final int CLICK_ROOM = 120, FUNNEL_ROOM = 6, STEP_ROOM = 4;
    private static final int WHOS = 24, NAMES = 12, SORTS = 8, WEEKS = 20;
    private static final int LAST_TIME = 200000, LAST_WINDOW = 100000;
    private static final int DAY = 1440, WEEK = 10080;

    private static final int GAP = 0, TURNS = 1, ENDING = 2, RATE = 3, SPAN = 4, BIRTHS = 5, RULES = 6;
    private static final int[] LEAST_RULE = {0, 0, -1, 0, 1, 0};
    private static final int[] GREATEST_RULE = {10000, 1, 7, 100, 10000, 7};

    private final Clicks clicks;
    private final int[] personOf;
    private final int[] rules;
    private final Row[] rows;
    private final int[] placeOf;
    private final int[] sittingOf;
    private final Funnel[] funnels;
    private int funnelCount;
    private final Seeker seeker;

    public SittingDesk() {
        clicks = new Clicks();
        personOf = new int[WHOS];
        rows = new Row[WHOS];
        for (int p = 0; p < WHOS; p++) {
            personOf[p] = p;
            rows[p] = new Row(clicks);
        }
        rules = new int[RULES];
        rules[GAP] = 30;
        rules[ENDING] = NONE;
        rules[SPAN] = 1;
        placeOf = new int[CLICK_ROOM];
        sittingOf = new int[CLICK_ROOM];
        funnels = new Funnel[FUNNEL_ROOM];
        for (int f = 0; f < FUNNEL_ROOM; f++) {
            funnels[f] = new Funnel();
        }
        funnelCount = 0;
        seeker = new Seeker();
    }

    // ---- clicks

    public int click(int time, int who, int sort) {
        if (!isWho(who)) {
            return UNKNOWN;
        }
        if (time < 0 || time > LAST_TIME || !isSort(sort)) {
            return OUTSIDE;
        }
        int number = clicks.add(time, who, sort);
        if (number != FULL) {
            layRows();
        }
        return number;
    }

    public int strike(int c, boolean on) {
        if (!clicks.has(c)) {
            return UNKNOWN;
        }
        int was = bit(clicks.struck[c]);
        clicks.struck[c] = on;
        layRows();
        return was;
    }

    public int join(int mark, int name) {
        if (!isWho(mark) || isName(mark) || !isName(name)) {
            return UNKNOWN;
        }
        if (isJoined(mark)) {
            return NOT;
        }
        // While it is not joined, the mark's row holds its own clicks and no others.
        int owned = rows[mark].owned;
        personOf[mark] = name;
        layRows();
        return owned;
    }

    public int rule(int what, int v) {
        if (what < 0 || what >= RULES || v < LEAST_RULE[what] || v > GREATEST_RULE[what]) {
            return OUTSIDE;
        }
        int was = rules[what];
        rules[what] = v;
        layRows();
        return was;
    }

    public int told(int c, int what) {
        if (!clicks.has(c)) {
            return UNKNOWN;
        }
        switch (what) {
            case 0: return clicks.time[c];
            case 1: return clicks.who[c];
            case 2: return clicks.sort[c];
            case 3: return personOf[clicks.who[c]];
            case 4: return bit(placeOf[c] != NONE);
            case 5: return sittingOf[c];
            case 6: return placeOf[c];
            default: return OUTSIDE;
        }
    }

    public int person(int p, int what) {
        if (!isWho(p)) {
            return UNKNOWN;
        }
        Row line = rows[personOf[p]];
        switch (what) {
            case 0: return personOf[p];
            case 1: return line.owned;
            case 2: return line.size;
            case 3: return bit(line.quick);
            case 4: return line.sittings;
            case 5: return line.birth(rules[BIRTHS]);
            default: return OUTSIDE;
        }
    }

    public int row(int p, int i) {
        if (!isWho(p)) {
            return UNKNOWN;
        }
        Row line = rows[personOf[p]];
        return line.has(i) ? line.clicks[i] : NONE;
    }

    public int sitting(int p, int i, int what) {
        if (!isWho(p)) {
            return UNKNOWN;
        }
        Row line = rows[personOf[p]];
        int first = NONE;
        int last = NONE;
        int many = 0;
        for (int place = 0; place < line.size; place++) {
            int c = line.clicks[place];
            if (sittingOf[c] == i) {
                first = many == 0 ? c : first;
                last = c;
                many++;
            }
        }
        if (many == 0) {
            return UNKNOWN;
        }
        switch (what) {
            case 0: return first;
            case 1: return last;
            case 2: return many;
            case 3: return clicks.time[last] - clicks.time[first];
            default: return OUTSIDE;
        }
    }

    public int count(int what) {
        switch (what) {
            case 0: return clicks.size;
            case 1: return countingClicks();
            case 2: return allSittings();
            case 3: return presentPersons();
            case 4: return quickPersons();
            case 5: return joinedMarks();
            case 6: return funnelCount;
            default: return OUTSIDE;
        }
    }

    // ---- funnels

    public int funnel(boolean ordered, int window, int bar) {
        if (window < 0 || window > LAST_WINDOW || bar != NONE && !isSort(bar)) {
            return OUTSIDE;
        }
        if (funnelCount >= FUNNEL_ROOM) {
            return FULL;
        }
        funnels[funnelCount].open(ordered, window, bar);
        funnelCount++;
        return funnelCount - 1;
    }

    public int step(int f, int sort) {
        if (!isFunnel(f)) {
            return UNKNOWN;
        }
        if (!isSort(sort)) {
            return OUTSIDE;
        }
        Funnel longer = funnels[f];
        if (longer.size >= STEP_ROOM) {
            return FULL;
        }
        longer.steps[longer.size] = sort;
        longer.size++;
        return longer.size;
    }

    public int ways(int f, int p) {
        if (!isFunnel(f) || p != NONE && !isWho(p)) {
            return UNKNOWN;
        }
        if (p != NONE) {
            return seeker.tellWays(funnels[f], rows[personOf[p]]);
        }
        int all = 0;
        for (int q = 0; q < WHOS; q++) {
            all += seeker.tellWays(funnels[f], rows[q]);
        }
        return all;
    }

    public int way(int f, int p, int i, int what) {
        if (!isFunnel(f) || !isWho(p)) {
            return UNKNOWN;
        }
        Row line = rows[personOf[p]];
        int many = seeker.tellWays(funnels[f], line);
        if (i < 0 || i >= many) {
            return UNKNOWN;
        }
        switch (what) {
            case 0: return line.clicks[seeker.firstPlace[i]];
            case 1: return line.clicks[seeker.lastPlace[i]];
            default: return OUTSIDE;
        }
    }

    public int reach(int f, int p) {
        if (!isFunnel(f) || !isWho(p)) {
            return UNKNOWN;
        }
        return seeker.farthest(funnels[f], rows[personOf[p]]);
    }

    public int reached(int f, int k) {
        if (!isFunnel(f)) {
            return UNKNOWN;
        }
        if (k < 0 || k > STEP_ROOM) {
            return OUTSIDE;
        }
        int many = 0;
        for (int p = 0; p < WHOS; p++) {
            if (rows[p].size > 0 && seeker.farthest(funnels[f], rows[p]) >= k) {
                many++;
            }
        }
        return many;
    }

    // ---- weeks

    public int born(int week) {
        if (!isWeek(week)) {
            return OUTSIDE;
        }
        int many = 0;
        for (int p = 0; p < WHOS; p++) {
            if (rows[p].birth(rules[BIRTHS]) == week) {
                many++;
            }
        }
        return many;
    }

    public int came(int week, int d) {
        if (!isWeek(week) || !isWeek(d)) {
            return OUTSIDE;
        }
        int many = 0;
        for (int p = 0; p < WHOS; p++) {
            if (rows[p].birth(rules[BIRTHS]) == week && rows[p].isIn(week + d)) {
                many++;
            }
        }
        return many;
    }

    public int digest() {
        int d = 7;
        for (int p = 0; p < WHOS; p++) {
            if (!isJoined(p)) {
                d = digestWith(d, rows[p]);
            }
        }
        return d;
    }

    private int digestWith(int before, Row line) {
        int d = before;
        for (int place = 0; place < line.size; place++) {
            int c = line.clicks[place];
            d = 31 * d + c;
            d = 31 * d + sittingOf[c];
        }
        return 31 * d + line.birth(rules[BIRTHS]);
    }

    private static boolean isWho(int who) {
        return who >= 0 && who < WHOS;
    }

    private static boolean isName(int who) {
        return who >= 0 && who < NAMES;
    }

    private static boolean isSort(int sort) {
        return sort >= 0 && sort < SORTS;
    }

    private static boolean isWeek(int week) {
        return week >= 0 && week < WEEKS;
    }

    private boolean isFunnel(int f) {
        return f >= 0 && f < funnelCount;
    }

    private boolean isJoined(int who) {
        return personOf[who] != who;
    }

    private static int bit(boolean b) {
        return b ? 1 : 0;
    }

    /** Deals all clicks into the rows of their persons; a mark that is joined keeps an empty row. */
    private void layRows() {
        for (int p = 0; p < WHOS; p++) {
            rows[p].empty();
        }
        for (int i = 0; i < clicks.size; i++) {
            int c = clicks.byTime[i];
            placeOf[c] = NONE;
            sittingOf[c] = NONE;
            rows[personOf[clicks.who[c]]].take(c);
        }
        for (int p = 0; p < WHOS; p++) {
            rows[p].dropIfQuick(rules[RATE], rules[SPAN]);
            cutSittings(rows[p]);
        }
    }

    private void cutSittings(Row line) {
        int sittings = 0;
        for (int place = 0; place < line.size; place++) {
            int c = line.clicks[place];
            if (place == 0 || isCut(line.clicks[place - 1], c)) {
                sittings++;
            }
            placeOf[c] = place;
            sittingOf[c] = sittings - 1;
        }
        line.sittings = sittings;
    }

    private boolean isCut(int ahead, int c) {
        int before = clicks.time[ahead];
        int now = clicks.time[c];
        return now - before > rules[GAP]
            || rules[TURNS] == 1 && now / DAY != before / DAY
            || clicks.sort[ahead] == rules[ENDING];
    }

    private int countingClicks() {
        int many = 0;
        for (int p = 0; p < WHOS; p++) {
            many += rows[p].size;
        }
        return many;
    }

    private int allSittings() {
        int many = 0;
        for (int p = 0; p < WHOS; p++) {
            many += rows[p].sittings;
        }
        return many;
    }

    private int presentPersons() {
        int many = 0;
        for (int p = 0; p < WHOS; p++) {
            many += bit(rows[p].size > 0);
        }
        return many;
    }

    private int quickPersons() {
        int many = 0;
        for (int p = 0; p < WHOS; p++) {
            many += bit(rows[p].quick);
        }
        return many;
    }

    private int joinedMarks() {
        int many = 0;
        for (int p = 0; p < WHOS; p++) {
            many += bit(isJoined(p));
        }
        return many;
    }

    /** What was told of each click, by its number, and the order of all of them by time. */
    private static final class Clicks {
        final int[] time = new int[CLICK_ROOM];
        final int[] who = new int[CLICK_ROOM];
        final int[] sort = new int[CLICK_ROOM];
        final boolean[] struck = new boolean[CLICK_ROOM];
        final int[] byTime = new int[CLICK_ROOM];
        int size;

        boolean has(int c) {
            return c >= 0 && c < size;
        }

        /** The new click's number, or FULL. */
        int add(int itsTime, int itsWho, int itsSort) {
            if (size >= CLICK_ROOM) {
                return FULL;
            }
            int number = size;
            time[number] = itsTime;
            who[number] = itsWho;
            sort[number] = itsSort;
            // The new number is the greatest, so among like times the new click comes last.
            int at = number;
            while (at > 0 && time[byTime[at - 1]] > itsTime) {
                byTime[at] = byTime[at - 1];
                at--;
            }
            byTime[at] = number;
            size++;
            return number;
        }
    }

    /** A person's clicks that count, by times and numbers, and what is known of the person. */
    private static final class Row {
        final Clicks all;
        final int[] clicks = new int[CLICK_ROOM];
        int size;
        int owned;
        boolean quick;
        int sittings;

        Row(Clicks all) {
            this.all = all;
        }

        boolean has(int place) {
            return place >= 0 && place < size;
        }

        int timeAt(int place) {
            return has(place) ? all.time[clicks[place]] : NONE;
        }

        int sortAt(int place) {
            return has(place) ? all.sort[clicks[place]] : NONE;
        }

        void empty() {
            size = 0;
            owned = 0;
            quick = false;
            sittings = 0;
        }

        void take(int c) {
            owned++;
            if (!all.struck[c] && size < CLICK_ROOM) {
                clicks[size] = c;
                size++;
            }
        }

        void dropIfQuick(int rate, int span) {
            quick = isQuick(rate, span);
            if (quick) {
                size = 0;
            }
        }

        /** By times, more than rate clicks within a span are rate + 1 neighbours within it. */
        private boolean isQuick(int rate, int span) {
            if (rate <= 0) {
                return false;
            }
            for (int place = rate; place < size; place++) {
                if (timeAt(place) - timeAt(place - rate) < span) {
                    return true;
                }
            }
            return false;
        }

        int birth(int sortOfBirths) {
            for (int place = 0; place < size; place++) {
                if (sortAt(place) == sortOfBirths) {
                    return timeAt(place) / WEEK;
                }
            }
            return NONE;
        }

        boolean isIn(int week) {
            for (int place = 0; place < size; place++) {
                if (timeAt(place) / WEEK == week) {
                    return true;
                }
            }
            return false;
        }
    }

    /**
     * Steps to go through. A set of steps is a number with a bit for each step in it; many sets
     * together are a number with a bit for each set.
     */
    private static final class Funnel {
        /** At s: the one set of the steps ahead of step s, all of them. */
        private static final int[] JUST_THOSE_AHEAD = {0x0001, 0x0002, 0x0008, 0x0080};
        /** At s: all sets that lack step s. */
        private static final int[] ALL_WITHOUT = {0x5555, 0x3333, 0x0f0f, 0x00ff};

        final int[] steps = new int[STEP_ROOM];
        int size;
        boolean ordered;
        int window;
        int bar;

        void open(boolean isOrdered, int itsWindow, int itsBar) {
            ordered = isOrdered;
            window = itsWindow;
            bar = itsBar;
            size = 0;
        }

        /** The sets that come of these when a click of the sort is taken for one step more. */
        int taking(int sets, int sort) {
            int taken = 0;
            for (int s = 0; s < size; s++) {
                if (steps[s] == sort) {
                    int fit = ordered ? JUST_THOSE_AHEAD[s] : ALL_WITHOUT[s];
                    taken |= (sets & fit) << (1 << s);
                }
            }
            return taken;
        }

        /** The greatest k of which the set of the first k steps is among these; 0. */
        int depthOf(int sets) {
            for (int k = size; k > 0 && sets != 0; k--) {
                if (hasFirst(k, sets)) {
                    return k;
                }
            }
            return 0;
        }

        static boolean hasFirst(int k, int sets) {
            return (sets >> ((1 << k) - 1) & 1) == 1;
        }
    }

    /** Looks for ways of one row through one funnel. */
    private static final class Seeker {
        private static final int JUST_THE_EMPTY_SET = 1;

        final int[] firstPlace = new int[CLICK_ROOM];
        final int[] lastPlace = new int[CLICK_ROOM];
        private int depth;
        private int end;

        /** Writes down the first and last places of the told ways: how many. */
        int tellWays(Funnel funnel, Row line) {
            int many = 0;
            int closedUntil = NONE;
            for (int place = 0; place < line.size; place++) {
                if (line.timeAt(place) > closedUntil) {
                    seekFrom(place, funnel, line);
                    if (end != NONE && many < CLICK_ROOM) {
                        firstPlace[many] = place;
                        lastPlace[many] = end;
                        many++;
                        closedUntil = line.timeAt(place) + funnel.window;
                    }
                }
            }
            return many;
        }

        int farthest(Funnel funnel, Row line) {
            int best = 0;
            for (int place = 0; place < line.size && best < funnel.size; place++) {
                seekFrom(place, funnel, line);
                best = Math.max(best, depth);
            }
            return best;
        }

        /**
         * Of the ways whose first click is at this place: the greatest depth, and the first place
         * at which one through all steps ends (NONE). A click of the bar behind the first one has
         * to be taken, as any way that leaves it out would have it between its ends.
         */
        private void seekFrom(int first, Funnel funnel, Row line) {
            depth = 0;
            end = NONE;
            int sets = JUST_THE_EMPTY_SET;
            int until = line.timeAt(first) + funnel.window;
            for (int place = first; place < line.size && line.timeAt(place) <= until; place++) {
                int sort = line.sortAt(place);
                int taken = funnel.taking(sets, sort);
                depth = Math.max(depth, funnel.depthOf(taken));
                if (depth > 0 && depth == funnel.size) {
                    end = place;
                    return;
                }
                boolean mustBeTaken = place == first || sort == funnel.bar;
                sets = mustBeTaken ? taken : sets | taken;
                if (sets == 0) {
                    return;
                }
            }
        }
    }
}
