import java.util.Arrays;

/** Desks that come out the same each time, and all that can be seen of one. */
final class Desks {
    interface Ask {
        int of(SittingDesk x);
    }

    interface Maker {
        SittingDesk make();
    }

    private static final int BUSY_CLICKS = 9;
    private static final int[] SEEN_WHOS = {0, 1, 2, 11, 12, 13, 23};
    private static final int[] OTHER_RULES = {7, 0, 3, 2, 5, 6};

    private Desks() {
    }

    /** Something of everything: a joined mark, a struck click, a quick name, no rule as at first. */
    static SittingDesk busy() {
        SittingDesk x = new SittingDesk();
        clicks(x, 0, 100, 0, 20000, 0);
        clicks(x, 12, 110, 1);
        clicks(x, 0, 100, 2);
        clicks(x, 1, 500, 3, 501, 3);
        clicks(x, 2, 2000, 0, 12000, 5);
        clicks(x, 13, 2001, 1);
        x.strike(3, true);
        x.join(12, 0);
        int[] rules = {40, 1, 5, 1, 2, 1};
        for (int what = 0; what < rules.length; what++) {
            x.rule(what, rules[what]);
        }
        with(x, true, 50, 4, 0, 1);
        with(x, false, 0, -1, 1, 1, 2, 3);
        with(x, true, 9, 2);
        return x;
    }

    /** Busy, with no room for a click or a funnel more. */
    static SittingDesk full() {
        SittingDesk x = busy();
        for (int c = BUSY_CLICKS; c < 120; c++) {
            x.click(300 * c, c % 24, c % 8);
        }
        for (int f = 3; f < 6; f++) {
            with(x, false, 1000 * f, f, f, 0);
        }
        return x;
    }

    /** Clicks of one who, told as TIME, SORT, TIME, SORT and so on. */
    static void clicks(SittingDesk x, int who, int... timesAndSorts) {
        for (int i = 0; i + 1 < timesAndSorts.length; i += 2) {
            x.click(timesAndSorts[i], who, timesAndSorts[i + 1]);
        }
    }

    /** Clicks of who 0, ten minutes apart from 0 on. */
    static SittingDesk ofSorts(int... sorts) {
        SittingDesk x = new SittingDesk();
        for (int i = 0; i < sorts.length; i++) {
            x.click(10 * i, 0, sorts[i]);
        }
        return x;
    }

    /** Clicks of who 0 and sort 0 at these times. */
    static SittingDesk ofTimes(int... times) {
        SittingDesk x = new SittingDesk();
        for (int time : times) {
            x.click(time, 0, 0);
        }
        return x;
    }

    /** A funnel with its steps: its number. */
    static int with(SittingDesk x, boolean ordered, int window, int bar, int... steps) {
        int f = x.funnel(ordered, window, bar);
        for (int sort : steps) {
            x.step(f, sort);
        }
        return f;
    }

    /** All that can be seen of a desk, in less than 300 calls; the last of them change it. */
    static int[] portrait(SittingDesk x) {
        Answers seen = new Answers();
        seeClicks(x, seen);
        seeFunnels(x, seen);
        seeWeeks(x, seen);
        seeByChanges(x, seen);
        return seen.all();
    }

    private static void seeClicks(SittingDesk x, Answers seen) {
        for (int what = 0; what < 7; what++) {
            seen.add(x.count(what));
            for (int c = 0; c < BUSY_CLICKS; c++) {
                seen.add(x.told(c, what));
            }
        }
        for (int p : SEEN_WHOS) {
            for (int what = 0; what < 6; what++) {
                seen.add(x.person(p, what));
            }
        }
        for (int i = 0; i < 3; i++) {
            for (int p = 0; p < 3; p++) {
                seen.add(x.row(p, i));
                for (int what = 0; what < 4; what++) {
                    seen.add(x.sitting(p, i, what));
                }
            }
        }
    }

    private static void seeFunnels(SittingDesk x, Answers seen) {
        for (int f = 0; f < 6; f++) {
            seen.add(x.ways(f, -1));
            seen.add(x.way(f, 0, 0, 0));
            seen.add(x.way(f, 0, 0, 1));
            seen.add(x.reach(f, 0));
            seen.add(x.reach(f, 2));
            for (int k = 0; k < 5; k++) {
                seen.add(x.reached(f, k));
            }
        }
    }

    private static void seeWeeks(SittingDesk x, Answers seen) {
        for (int week = 0; week < 20; week++) {
            seen.add(x.born(week));
        }
        for (int d = 0; d < 3; d++) {
            seen.add(x.came(0, d));
        }
        seen.add(x.digest());
    }

    private static void seeByChanges(SittingDesk x, Answers seen) {
        for (int what = 0; what < OTHER_RULES.length; what++) {
            seen.add(x.rule(what, OTHER_RULES[what]));
        }
        for (int c = 0; c < BUSY_CLICKS; c++) {
            seen.add(x.strike(c, false));
        }
        for (int mark = 12; mark < 24; mark++) {
            seen.add(x.join(mark, 0));
        }
        for (int f = 0; f < 6; f++) {
            seen.add(x.step(f, 0));
        }
        seen.add(x.click(5, 5, 5));
        seen.add(x.funnel(true, 5, 5));
        seen.add(x.digest());
    }

    /** A row of answers that grows. */
    private static final class Answers {
        private int[] kept = new int[512];
        private int size = 0;

        void add(int answer) {
            kept[size] = answer;
            size++;
        }

        int[] all() {
            return Arrays.copyOf(kept, size);
        }
    }
}
