import java.util.ArrayList;
import java.util.List;
import java.util.Random;

/** Long runs of calls, the same in every test run, on SittingDesk and on PlainDesk. */
public final class PlainDeskTest {
    private static final int RUNS = 1200, CALLS = 512;
    private static final int[] FAR = {Integer.MIN_VALUE, -1005, -2, -1, 24, 120, 200001, Integer.MAX_VALUE};

    private final Due due;
    private final Random dice;
    private final SittingDesk desk = new SittingDesk();
    private final PlainDesk plain = new PlainDesk();
    private final List<String> calls = new ArrayList<>();
    private final int clickRoom;
    private final int timeRoom;
    private final int whoRoom;
    private final int sortRoom;
    private int clicks = 0;

    private PlainDeskTest(Due due, int seed) {
        this.due = due;
        dice = new Random(seed);
        // Long rows with few sorts would make the plain search of ways too long.
        clickRoom = seed % 10 == 0 ? 130 : 6 + dice.nextInt(34);
        whoRoom = clickRoom > 60 ? 24 : 1 + dice.nextInt(5);
        sortRoom = clickRoom > 20 && whoRoom < 4 ? 6 : 2 + dice.nextInt(7);
        int[] times = {3, 60, 400, 5000, 60000, 200000};
        timeRoom = times[dice.nextInt(times.length)];
    }

    public static void main(String[] args) {
        Due due = new Due("PlainDeskTest");
        for (int seed = 0; seed < RUNS && due.allWell(); seed++) {
            new PlainDeskTest(due, seed).run();
        }
        due.end();
    }

    private void run() {
        for (int i = 0; i < CALLS && due.allWell(); i++) {
            int kind = dice.nextInt(100);
            if (kind < 14) {
                clickOnce();
            } else if (kind < 26) {
                changeOnce();
            } else {
                askOnce(dice.nextInt(13));
            }
        }
        if (!due.allWell()) {
            calls.forEach(System.out::println);
        }
    }

    private int below(int bound) {
        return dice.nextInt(40) == 0 ? FAR[dice.nextInt(FAR.length)] : dice.nextInt(bound);
    }

    private int who() {
        int who = below(whoRoom);
        return who >= 0 && who < 12 && whoRoom < 24 && dice.nextInt(3) == 0 ? 12 + who : who;
    }

    private int clickNumber() {
        return below(clicks + 1);
    }

    private void same(String call, int got, int want) {
        calls.add(call + " answered " + got);
        due.is(call, got, want);
    }

    private void clickOnce() {
        int time = below(timeRoom + 1);
        int who = who();
        int sort = below(sortRoom);
        if (clicks >= clickRoom) {
            return;
        }
        int number = plain.click(time, who, sort);
        clicks += number >= 0 ? 1 : 0;
        same("click(" + time + ", " + who + ", " + sort + ")", desk.click(time, who, sort), number);
    }

    private void changeOnce() {
        int kind = dice.nextInt(9);
        if (kind < 3) {
            int c = clickNumber();
            boolean on = dice.nextBoolean();
            same("strike(" + c + ", " + on + ")", desk.strike(c, on), plain.strike(c, on));
        } else if (kind == 3) {
            int mark = dice.nextInt(3) == 0 ? who() : 12 + dice.nextInt(12);
            int name = who();
            same("join(" + mark + ", " + name + ")", desk.join(mark, name), plain.join(mark, name));
        } else if (kind < 6) {
            int what = below(6);
            int v = ruleValue(what);
            same("rule(" + what + ", " + v + ")", desk.rule(what, v), plain.rule(what, v));
        } else if (kind == 6) {
            boolean ordered = dice.nextBoolean();
            int window = below(Math.min(timeRoom + 1, 100000));
            int bar = dice.nextInt(3) == 0 ? -1 : below(sortRoom);
            same("funnel(" + ordered + ", " + window + ", " + bar + ")",
                desk.funnel(ordered, window, bar), plain.funnel(ordered, window, bar));
        } else {
            int f = below(6);
            int sort = below(sortRoom);
            same("step(" + f + ", " + sort + ")", desk.step(f, sort), plain.step(f, sort));
        }
    }

    private int ruleValue(int what) {
        switch (what) {
            case 0: return below(1 + timeRoom / 10);
            case 1: return below(2);
            case 2: return below(sortRoom + 1) - 1;
            case 3: return dice.nextBoolean() ? 0 : below(6);
            case 4: return 1 + below(1 + timeRoom / 20);
            default: return below(sortRoom);
        }
    }

    private void askOnce(int kind) {
        int f = below(6);
        int p = who();
        int i = below(1 + dice.nextInt(10));
        int what = below(7);
        switch (kind) {
            case 0: {
                int c = clickNumber();
                same("told(" + c + ", " + what + ")", desk.told(c, what), plain.told(c, what));
                break;
            }
            case 1: same("person(" + p + ", " + what + ")", desk.person(p, what), plain.person(p, what)); break;
            case 2: same("row(" + p + ", " + i + ")", desk.row(p, i), plain.row(p, i)); break;
            case 3:
                what = below(5);
                same("sitting(" + p + ", " + i + ", " + what + ")", desk.sitting(p, i, what), plain.sitting(p, i, what));
                break;
            case 4: same("count(" + what + ")", desk.count(what), plain.count(what)); break;
            case 5: same("ways(" + f + ", " + p + ")", desk.ways(f, p), plain.ways(f, p)); break;
            case 6: same("ways(" + f + ", -1)", desk.ways(f, -1), plain.ways(f, -1)); break;
            case 7: wayOnce(f, p); break;
            case 8: same("reach(" + f + ", " + p + ")", desk.reach(f, p), plain.reach(f, p)); break;
            case 9: {
                int k = below(6);
                same("reached(" + f + ", " + k + ")", desk.reached(f, k), plain.reached(f, k));
                break;
            }
            case 10: {
                int week = below(1 + timeRoom / 10080);
                same("born(" + week + ")", desk.born(week), plain.born(week));
                break;
            }
            case 11: {
                int week = below(1 + timeRoom / 10080);
                int d = below(2 + timeRoom / 10080);
                same("came(" + week + ", " + d + ")", desk.came(week, d), plain.came(week, d));
                break;
            }
            default: same("digest()", desk.digest(), plain.digest()); break;
        }
    }

    private void wayOnce(int f, int p) {
        int i = below(1 + dice.nextInt(3));
        int what = below(2);
        same("way(" + f + ", " + p + ", " + i + ", " + what + ")", desk.way(f, p, i, what), plain.way(f, p, i, what));
    }
}
