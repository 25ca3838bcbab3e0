/** Promises 11 to 16: funnels, ways and reach. */
public final class FunnelsTest {
    private static final int LOW = Integer.MIN_VALUE, HIGH = Integer.MAX_VALUE;

    public static void main(String[] args) {
        Due due = new Due("FunnelsTest");
        funnel(due);
        step(due);
        ways(due);
        nextWays(due);
        window(due);
        orderAndNoOrder(due);
        allOrders(due);
        barOutsideTheSteps(due);
        barAmongTheSteps(due);
        likeTimes(due);
        way(due);
        reach(due);
        reachAcrossAHole(due);
        reached(due);
        changes(due);
        due.end();
    }

    private static void isWay(Due due, String what, SittingDesk x, int f, int first, int last) {
        due.is(what + ": first", x.way(f, 0, 0, 0), first);
        due.is(what + ": last", x.way(f, 0, 0, 1), last);
    }

    private static void funnel(Due due) {
        SittingDesk x = new SittingDesk();
        due.is("window below", x.funnel(true, -1, 0), Due.OUTSIDE);
        due.is("window above", x.funnel(true, 100001, 0), Due.OUTSIDE);
        due.is("bar below", x.funnel(true, 0, -2), Due.OUTSIDE);
        due.is("bar above", x.funnel(true, 0, 8), Due.OUTSIDE);
        due.is("far out", x.funnel(false, HIGH, LOW), Due.OUTSIDE);
        due.is("none yet", x.count(6), 0);
        due.is("least", x.funnel(true, 0, -1), 0);
        due.is("greatest", x.funnel(false, 100000, 7), 1);
        for (int f = 2; f < 6; f++) {
            due.is("funnel " + f, x.funnel(true, 5, 0), f);
        }
        due.is("one too many", x.funnel(true, 5, 0), Due.FULL);
        due.is("OUTSIDE ahead of FULL", x.funnel(true, 5, 8), Due.OUTSIDE);
        due.is("six", x.count(6), 6);
    }

    private static void step(Due due) {
        SittingDesk x = new SittingDesk();
        due.is("no funnel", x.step(0, 0), Due.UNKNOWN);
        x.funnel(true, 5, 0);
        due.is("funnel below", x.step(-1, 0), Due.UNKNOWN);
        due.is("UNKNOWN ahead of OUTSIDE", x.step(1, 8), Due.UNKNOWN);
        due.is("sort below", x.step(0, -1), Due.OUTSIDE);
        due.is("sort above", x.step(0, 8), Due.OUTSIDE);
        for (int k = 1; k <= 4; k++) {
            due.is("step " + k, x.step(0, 7), k);
        }
        due.is("one too many", x.step(0, 7), Due.FULL);
        due.is("OUTSIDE ahead of FULL", x.step(0, 8), Due.OUTSIDE);
    }

    private static void ways(Due due) {
        SittingDesk x = Desks.ofSorts(0, 1, 0, 1);
        x.click(0, 13, 0);
        x.click(5, 13, 1);
        due.is("no funnel", x.ways(0, 0), Due.UNKNOWN);
        x.funnel(true, 10, -1);
        due.is("without steps", x.ways(0, 0), 0);
        due.is("without steps, all", x.ways(0, -1), 0);
        x.step(0, 0);
        x.step(0, 1);
        due.is("two ways", x.ways(0, 0), 2);
        due.is("the mark's", x.ways(0, 13), 1);
        due.is("all persons", x.ways(0, -1), 3);
        due.is("nobody's", x.ways(0, 5), 0);
        due.is("who below", x.ways(0, -2), Due.UNKNOWN);
        due.is("who above", x.ways(0, 24), Due.UNKNOWN);
        due.is("funnel above", x.ways(1, -1), Due.UNKNOWN);
        due.is("funnel below", x.ways(-1, 0), Due.UNKNOWN);
        x.join(13, 7);
        due.is("of the joined mark", x.ways(0, 13), 1);
        due.is("of its name", x.ways(0, 7), 1);
        due.is("none twice", x.ways(0, -1), 3);
    }

    private static void nextWays(Due due) {
        SittingDesk x = Desks.ofSorts(0, 0, 0, 0, 0);
        due.is("window 10", x.ways(Desks.with(x, true, 10, -1, 0), 0), 3);
        due.is("window 9", x.ways(Desks.with(x, true, 9, -1, 0), 0), 5);
        due.is("window 20", x.ways(Desks.with(x, true, 20, -1, 0), 0), 2);
        due.is("way 1 of window 20", x.way(2, 0, 1, 0), 3);
        // The next way may begin ahead of the last click of the one ahead.
        SittingDesk y = new SittingDesk();
        y.click(0, 0, 0);
        y.click(11, 0, 0);
        y.click(10, 0, 1);
        y.click(12, 0, 1);
        due.is("two", y.ways(Desks.with(y, true, 10, -1, 0, 1), 0), 2);
        due.is("second", y.way(0, 0, 1, 0), 1);
        due.is("second", y.way(0, 0, 1, 1), 3);
    }

    private static void window(Due due) {
        SittingDesk x = Desks.ofSorts(0, 1);
        due.is("WINDOW at most", x.ways(Desks.with(x, true, 10, -1, 0, 1), 0), 1);
        due.is("above WINDOW", x.ways(Desks.with(x, true, 9, -1, 0, 1), 0), 0);
        due.is("reach above WINDOW", x.reach(1, 0), 1);
        due.is("in any order, above", x.ways(Desks.with(x, false, 9, -1, 1, 0), 0), 0);
        due.is("in any order, at most", x.ways(Desks.with(x, false, 10, -1, 1, 0), 0), 1);
        SittingDesk y = new SittingDesk();
        y.click(0, 0, 0);
        y.click(100000, 0, 1);
        y.click(200000, 0, 0);
        due.is("greatest WINDOW", y.ways(Desks.with(y, true, 100000, -1, 0), 0), 2);
        due.is("greatest WINDOW", y.reach(Desks.with(y, false, 100000, -1, 1, 0, 0), 0), 2);
    }

    private static void orderAndNoOrder(Due due) {
        SittingDesk x = Desks.ofSorts(2, 1, 0, 1, 2);
        isWay(due, "in order", x, Desks.with(x, true, 100, -1, 0, 1, 2), 2, 4);
        isWay(due, "in any order", x, Desks.with(x, false, 100, -1, 0, 1, 2), 0, 2);
        isWay(due, "each another one", x, Desks.with(x, false, 100, -1, 1, 1), 1, 3);
        isWay(due, "two and two", x, Desks.with(x, false, 100, -1, 1, 2, 1, 2), 0, 4);
        due.is("three of two", x.ways(Desks.with(x, false, 100, -1, 1, 1, 1), 0), 0);
        due.is("reach two of three", x.reach(4, 0), 2);
        isWay(due, "two and two in order", x, Desks.with(x, true, 100, -1, 2, 1, 1, 2), 0, 4);
    }

    /** Four clicks of four sorts in each of the 24 orders. */
    private static void allOrders(Due due) {
        for (int code = 0; code < 256; code++) {
            int[] sorts = {code & 3, code >> 2 & 3, code >> 4 & 3, code >> 6};
            if ((1 << sorts[0] | 1 << sorts[1] | 1 << sorts[2] | 1 << sorts[3]) == 15) {
                SittingDesk x = Desks.ofSorts(sorts);
                String row = "row " + sorts[0] + sorts[1] + sorts[2] + sorts[3];
                isWay(due, row + " in any order", x, Desks.with(x, false, 30, -1, 0, 1, 2, 3), 0, 3);
                boolean isInOrder = code == 0b11100100;
                due.is(row + " in order", x.ways(Desks.with(x, true, 30, -1, 0, 1, 2, 3), 0), isInOrder ? 1 : 0);
                int third = Desks.with(x, false, 30, -1, sorts[3], sorts[1], sorts[2], sorts[0]);
                isWay(due, row + " with its ends turned", x, third, 0, 3);
                due.is(row + " reach", x.reach(third, 0), 4);
            }
        }
    }

    private static void barOutsideTheSteps(Due due) {
        SittingDesk x = Desks.ofSorts(3, 0, 3, 1, 0, 1, 3);
        isWay(due, "barred, then not", x, Desks.with(x, true, 100, 3, 0, 1), 4, 5);
        isWay(due, "no bar", x, Desks.with(x, true, 100, -1, 0, 1), 1, 3);
        isWay(due, "in any order", x, Desks.with(x, false, 100, 3, 0, 1), 3, 4);
        isWay(due, "one step is never barred", x, Desks.with(x, false, 100, 3, 1), 3, 3);
        due.is("all barred", x.ways(Desks.with(x, true, 100, 3, 0, 0, 0), 0), 0);
        due.is("reach with the bar", x.reach(4, 0), 1);
    }

    private static void barAmongTheSteps(Due due) {
        SittingDesk x = Desks.ofSorts(0, 1, 1, 2);
        due.is("one bar left over", x.ways(Desks.with(x, true, 100, 1, 0, 1, 2), 0), 0);
        due.is("but reach two", x.reach(0, 0), 2);
        isWay(due, "both are steps", x, Desks.with(x, true, 100, 1, 0, 1, 1, 2), 0, 3);
        isWay(due, "the bar at an end", x, Desks.with(x, true, 100, 1, 1, 2), 2, 3);
        isWay(due, "in any order, from the bar", x, Desks.with(x, false, 100, 1, 2, 1), 2, 3);
        SittingDesk y = Desks.ofSorts(1, 0, 1, 2, 1);
        isWay(due, "bars at both ends", y, Desks.with(y, false, 100, 1, 1, 1), 0, 2);
        isWay(due, "bar first, bar between", y, Desks.with(y, false, 100, 1, 2, 1, 1), 0, 3);
        isWay(due, "the bar must be taken", y, Desks.with(y, false, 100, 1, 2, 0, 1), 1, 3);
        // The click of sort 0 that is taken decides whether the bar in front of it is between.
        SittingDesk z = Desks.ofSorts(0, 0, 1, 0, 2);
        isWay(due, "a later click for a step", z, Desks.with(z, true, 100, 1, 0, 1, 0, 2), 0, 4);
        isWay(due, "0 0 1 2", z, Desks.with(z, true, 100, 1, 0, 0, 1, 2), 0, 4);
    }

    private static void likeTimes(Due due) {
        SittingDesk x = new SittingDesk();
        x.click(5, 0, 0);
        x.click(5, 0, 3);
        x.click(5, 0, 1);
        due.is("the row tells what is between", x.ways(Desks.with(x, true, 0, 3, 0, 1), 0), 0);
        isWay(due, "the row tells the order", x, Desks.with(x, true, 0, -1, 0, 3, 1), 0, 2);
        due.is("not the other way", x.ways(Desks.with(x, true, 0, -1, 1, 0), 0), 0);
        isWay(due, "in any order", x, Desks.with(x, false, 0, -1, 1, 0), 0, 2);
        due.is("one way a time", x.ways(Desks.with(x, false, 0, -1, 3), 0), 1);
    }

    private static void way(Due due) {
        SittingDesk x = Desks.ofSorts(0, 1, 1);
        Desks.with(x, true, 50, -1, 0, 1);
        isWay(due, "the first end", x, 0, 0, 1);
        due.is("no way 1", x.way(0, 0, 1, 0), Due.UNKNOWN);
        due.is("no way -1", x.way(0, 0, -1, 0), Due.UNKNOWN);
        due.is("far out", x.way(0, 0, HIGH, 0), Due.UNKNOWN);
        due.is("UNKNOWN ahead of OUTSIDE", x.way(0, 0, 1, 2), Due.UNKNOWN);
        due.is("what below", x.way(0, 0, 0, -1), Due.OUTSIDE);
        due.is("what above", x.way(0, 0, 0, 2), Due.OUTSIDE);
        due.is("not of all", x.way(0, -1, 0, 0), Due.UNKNOWN);
        due.is("who above", x.way(0, 24, 0, 0), Due.UNKNOWN);
        due.is("funnel above", x.way(1, 0, 0, 0), Due.UNKNOWN);
        due.is("funnel below", x.way(-1, 0, 0, 0), Due.UNKNOWN);
        x.funnel(true, 50, -1);
        due.is("without steps", x.way(1, 0, 0, 0), Due.UNKNOWN);
        x.join(12, 0);
        due.is("by the mark", x.way(0, 12, 0, 1), 1);
    }

    private static void reach(Due due) {
        SittingDesk x = Desks.ofSorts(0, 1, 2, 3);
        due.is("no funnel", x.reach(0, 0), Due.UNKNOWN);
        x.funnel(true, 100, -1);
        due.is("without steps", x.reach(0, 0), 0);
        for (int k = 1; k <= 4; k++) {
            x.step(0, k - 1);
            due.is("reach " + k, x.reach(0, 0), k);
        }
        due.is("nobody", x.reach(0, 1), 0);
        due.is("not of all", x.reach(0, -1), Due.UNKNOWN);
        due.is("who above", x.reach(0, 24), Due.UNKNOWN);
        due.is("funnel above", x.reach(1, 0), Due.UNKNOWN);
        due.is("first step lacks", x.reach(Desks.with(x, true, 100, -1, 4, 0), 0), 0);
        due.is("any order, first step lacks", x.reach(Desks.with(x, false, 100, -1, 4, 0), 0), 0);
        due.is("back in order", x.reach(Desks.with(x, true, 100, -1, 3, 2, 1), 0), 1);
        due.is("back in any order", x.reach(Desks.with(x, false, 100, -1, 3, 2, 1), 0), 3);
    }

    private static void reachAcrossAHole(Due due) {
        SittingDesk x = Desks.ofSorts(0, 3, 1);
        int f = Desks.with(x, false, 100, 3, 0, 1);
        due.is("two steps: barred", x.reach(f, 0), 1);
        x.step(f, 3);
        due.is("three steps: the bar is taken", x.reach(f, 0), 3);
        x.step(f, 4);
        due.is("four steps: three are the greatest", x.reach(f, 0), 3);
        due.is("reached 2", x.reached(f, 2), 1);
        due.is("no way through all", x.ways(f, 0), 0);
    }

    private static void reached(Due due) {
        SittingDesk x = Desks.ofSorts(0, 1);
        x.click(0, 1, 0);
        x.click(0, 14, 5);
        x.click(0, 2, 0);
        x.strike(4, true);
        due.is("no funnel", x.reached(0, 0), Due.UNKNOWN);
        int f = x.funnel(true, 100, -1);
        due.is("without steps, 0", x.reached(f, 0), 3);
        due.is("without steps, 1", x.reached(f, 1), 0);
        x.step(f, 0);
        x.step(f, 1);
        int[] want = {3, 2, 1, 0, 0};
        for (int k = 0; k <= 4; k++) {
            due.is("reached(0, " + k + ")", x.reached(f, k), want[k]);
        }
        due.is("below", x.reached(f, -1), Due.OUTSIDE);
        due.is("above", x.reached(f, 5), Due.OUTSIDE);
        due.is("UNKNOWN ahead of OUTSIDE", x.reached(1, 5), Due.UNKNOWN);
        x.join(14, 1);
        due.is("the mark is no person", x.reached(f, 0), 2);
    }

    private static void changes(Due due) {
        SittingDesk x = Desks.ofSorts(0, 5, 1);
        int f = Desks.with(x, true, 100, 5, 0, 1);
        due.is("barred", x.ways(f, 0), 0);
        x.strike(1, true);
        due.is("the bar is struck", x.ways(f, 0), 1);
        x.click(15, 20, 5);
        due.is("another one's bar", x.ways(f, 0), 1);
        x.join(20, 0);
        due.is("the bar gets the name", x.ways(f, 0), 0);
        x.click(16, 0, 0);
        isWay(due, "late click behind the bar", x, f, 4, 2);
        x.rule(3, 3);
        x.rule(4, 20);
        due.is("not too quick", x.ways(f, 0), 1);
        x.rule(4, 21);
        due.is("too quick", x.ways(f, -1), 0);
        due.is("too quick", x.reach(f, 0), 0);
        due.is("too quick", x.reached(f, 0), 0);
    }
}
