import java.util.ArrayList;
import java.util.Arrays;
import java.util.Collections;
import java.util.List;
import java.util.Random;

/** "all put right as if it had been known before": the same things, told early, late or in between. */
public final class LateTest {
    private static final int RUNS = 400, CLICKS = 24;
    private static final int[] WHOS = {0, 1, 2, 11, 12, 13, 23};
    private static final int[] AT_FIRST = {30, 0, -1, 0, 1, 0};

    private final Due due;
    private final Random dice;
    private final int[][] clicks = new int[CLICKS][];
    private final boolean[] struck = new boolean[CLICKS];
    private final int[] rules;
    private final List<int[]> joins = new ArrayList<>();

    private LateTest(Due due, int seed) {
        this.due = due;
        dice = new Random(seed);
        int timeRoom = new int[] {50, 400, 4000, 200000}[seed % 4];
        for (int c = 0; c < CLICKS; c++) {
            int who = WHOS[dice.nextInt(WHOS.length)];
            clicks[c] = new int[] {dice.nextInt(timeRoom), who, dice.nextInt(5)};
            struck[c] = dice.nextInt(4) == 0;
        }
        rules = new int[] {dice.nextInt(1 + timeRoom / 5), dice.nextInt(2), dice.nextInt(6) - 1,
            dice.nextInt(4), 1 + dice.nextInt(1 + Math.min(timeRoom, 9000) / 9), dice.nextInt(5)};
        for (int mark : new int[] {12, 13, 23}) {
            if (dice.nextBoolean()) {
                joins.add(new int[] {mark, WHOS[dice.nextInt(4)]});
            }
        }
    }

    public static void main(String[] args) {
        Due due = new Due("LateTest");
        for (int seed = 0; seed < RUNS && due.allWell(); seed++) {
            new LateTest(due, seed).toldInOtherOrders();
            new LateTest(due, seed).clicksInAnotherOrder();
        }
        due.end();
    }

    // ---- the same numbers, all else early or late

    private void toldInOtherOrders() {
        int[] early = Desks.portrait(early());
        same("all late", late(), early);
        same("taken back in between", takenBack(), early);
        same("in between", inBetween(), early);
    }

    private void same(String when, SittingDesk x, int[] early) {
        due.sentence("all put right as if it had been known before");
        int[] seen = Desks.portrait(x);
        int same = 0;
        while (same < early.length && seen[same] == early[same]) {
            same++;
        }
        due.is(when + ": answers of the portrait that are as if told early", same, early.length);
    }

    private void tellRules(SittingDesk x) {
        for (int what = 0; what < rules.length; what++) {
            x.rule(what, rules[what]);
        }
    }

    private void tellJoins(SittingDesk x) {
        for (int[] join : joins) {
            x.join(join[0], join[1]);
        }
    }

    private void tellFunnels(SittingDesk x) {
        Desks.with(x, true, 300, 4, 0, 1, 2);
        Desks.with(x, false, 2000, -1, 1, 1, 3);
        Desks.with(x, false, 40, 2, 2, 0);
    }

    private void tellClick(SittingDesk x, int c) {
        x.click(clicks[c][0], clicks[c][1], clicks[c][2]);
    }

    private SittingDesk early() {
        SittingDesk x = new SittingDesk();
        tellRules(x);
        tellJoins(x);
        tellFunnels(x);
        for (int c = 0; c < CLICKS; c++) {
            tellClick(x, c);
            x.strike(c, struck[c]);
        }
        return x;
    }

    private SittingDesk late() {
        SittingDesk x = new SittingDesk();
        for (int c = 0; c < CLICKS; c++) {
            tellClick(x, c);
        }
        tellFunnels(x);
        for (int c = CLICKS - 1; c >= 0; c--) {
            x.strike(c, struck[c]);
        }
        Collections.reverse(joins);
        tellJoins(x);
        tellRules(x);
        return x;
    }

    private SittingDesk takenBack() {
        SittingDesk x = new SittingDesk();
        x.rule(3, 1);
        x.rule(4, 10000);
        x.rule(2, 0);
        for (int c = 0; c < CLICKS; c++) {
            tellClick(x, c);
            x.strike(c, !struck[c]);
        }
        tellFunnels(x);
        for (int what = 0; what < rules.length; what++) {
            x.rule(what, AT_FIRST[what]);
        }
        tellRules(x);
        for (int c = 0; c < CLICKS; c++) {
            x.strike(c, struck[c]);
        }
        tellJoins(x);
        return x;
    }

    private SittingDesk inBetween() {
        SittingDesk x = new SittingDesk();
        int ruled = dice.nextInt(CLICKS);
        int joined = dice.nextInt(CLICKS);
        int funnelled = dice.nextInt(CLICKS);
        for (int c = 0; c < CLICKS; c++) {
            tellClick(x, c);
            if (c == ruled) {
                tellRules(x);
            }
            if (c == joined) {
                tellJoins(x);
            }
            if (c == funnelled) {
                tellFunnels(x);
            }
            int earlier = c / 2;
            x.strike(earlier, struck[earlier]);
        }
        for (int c = CLICKS / 2; c < CLICKS; c++) {
            x.strike(c, struck[c]);
        }
        return x;
    }

    // ---- other numbers: what comes late has its place by its time

    private void clicksInAnotherOrder() {
        due.sentence("what comes late");
        List<Integer> order = new ArrayList<>();
        for (int c = 0; c < CLICKS; c++) {
            // Like times would have their places by the numbers, which are others now.
            clicks[c][0] = Math.min(200000 - CLICKS, clicks[c][0]) / CLICKS * CLICKS + c;
            order.add(c);
        }
        int[] inOrder = byTimes(toldBy(order));
        Collections.shuffle(order, dice);
        int[] shuffled = byTimes(toldBy(order));
        due.is("the same but for the numbers", Arrays.equals(inOrder, shuffled) ? 1 : 0, 1);
    }

    private SittingDesk toldBy(List<Integer> order) {
        SittingDesk x = new SittingDesk();
        for (int number = 0; number < CLICKS; number++) {
            int c = order.get(number);
            tellClick(x, c);
            x.strike(number, struck[c]);
        }
        tellRules(x);
        tellJoins(x);
        tellFunnels(x);
        return x;
    }

    /** What can be seen of a desk, with times in the place of numbers; in less than 450 calls. */
    private int[] byTimes(SittingDesk x) {
        List<Integer> seen = new ArrayList<>();
        for (int what = 1; what < 5; what++) {
            seen.add(x.count(what));
        }
        for (int p : new int[] {0, 1, 12, 23}) {
            for (int i = 0; i < 6; i++) {
                seen.add(timeOf(x, x.row(p, i)));
                seen.add(timeOf(x, x.sitting(p, i, 0)));
                seen.add(timeOf(x, x.sitting(p, i, 1)));
                seen.add(x.sitting(p, i, 2));
            }
            for (int f = 0; f < 3; f++) {
                seen.add(x.ways(f, p));
                seen.add(timeOf(x, x.way(f, p, 0, 0)));
                seen.add(timeOf(x, x.way(f, p, 0, 1)));
                seen.add(x.reach(f, p));
            }
            seen.add(x.person(p, 5));
        }
        for (int week = 0; week < 20; week++) {
            seen.add(x.born(week));
            seen.add(x.came(week, 1));
        }
        return seen.stream().mapToInt(Integer::intValue).toArray();
    }

    private static int timeOf(SittingDesk x, int c) {
        return c < 0 ? c : x.told(c, 0);
    }
}
