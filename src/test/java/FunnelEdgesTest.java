import java.util.Arrays;

/** "Terms", part 3, and promises 11 to 16: each sentence that names an edge. */
public final class FunnelEdgesTest {
    private final Due due = new Due("FunnelEdgesTest");

    public static void main(String[] args) {
        FunnelEdgesTest test = new FunnelEdgesTest();
        test.rooms();
        test.ways();
        test.bars();
        test.toldWays();
        test.reaches();
        test.answers();
        test.due.end();
    }

    private void rooms() {
        roomForFunnels();
        roomForSteps();
        boundsOfWindow();
        boundsOfBar();
    }

    private void ways() {
        eachAnotherOne();
        clickOfTheSortOfItsStep();
        everyRowOfSeven();
        orderedBehindInTheRow();
        notOrdered();
        windowNought();
        windowAtMost();
        greatestWindow();
        windowByTheEndsInTheRow();
    }

    private void bars() {
        barStrictlyBetween();
        barAheadAndBehind();
        barAtTheEnds();
        barThatIsOneOfTheWay();
        barLeftOver();
        barAmongLikeTimes();
        barThatIsNotInTheRow();
        noBar();
        barOfFirstAndLastSort();
    }

    private void toldWays() {
        firstClickComesFirst();
        lastClickComesFirst();
        nextAboveByMoreThanWindow();
        nextOfWindowNought();
        nextOfGreatestWindow();
        nextByTheOneAhead();
        nextMayBeginWithin();
        barredFirstOneLeavesTheNext();
        asManyAsThereMayBe();
    }

    private void reaches() {
        reachNought();
        reachOfEachLength();
        reachOfTheGreatest();
        reachByTheWindow();
        reachWithoutOrder();
    }

    private void answers() {
        funnelAnswers();
        stepAnswers();
        stepsAddedLater();
        waysAnswers();
        waysOfAll();
        wayAnswers();
        wayOfMany();
        reachAnswers();
        reachedAnswers();
        reachedCountsOnlyPresent();
        reachedOutside();
    }

    /** The ways of name 0, told as first click, last click and so on. */
    private void areWays(String what, SittingDesk x, int f, int... ends) {
        int many = ends.length / 2;
        due.is(what + ": how many", x.ways(f, 0), many);
        for (int i = 0; i < many; i++) {
            due.is(what + ": first click of way " + i, x.way(f, 0, i, 0), ends[2 * i]);
            due.is(what + ": last click of way " + i, x.way(f, 0, i, 1), ends[2 * i + 1]);
        }
        due.is(what + ": no way more", x.way(f, 0, many, 0), Due.UNKNOWN);
    }

    // ---- how many, and within which bounds

    private void roomForFunnels() {
        due.sentence("FUNNELS (6 at most)");
        SittingDesk x = new SittingDesk();
        for (int f = 0; f < 6; f++) {
            due.is("how many before", x.count(6), f);
            due.is("funnel " + f, x.funnel(f % 2 == 0, f, f), f);
        }
        due.is("the first one too many", x.funnel(true, 0, -1), Due.FULL);
        due.is("and again", x.funnel(false, 0, -1), Due.FULL);
        due.is("how many", x.count(6), 6);
        due.is("the last one is there", x.ways(5, 0), 0);
        due.is("no more", x.ways(6, 0), Due.UNKNOWN);
    }

    private void roomForSteps() {
        due.sentence("1 to 4 STEPS, each a SORT");
        SittingDesk x = Desks.ofSorts(0, 7, 0, 7, 0);
        int f = x.funnel(true, 100, -1);
        due.is("-1", x.step(f, -1), Due.OUTSIDE);
        due.is("8", x.step(f, 8), Due.OUTSIDE);
        due.is("first sort", x.step(f, 0), 1);
        due.is("last sort", x.step(f, 7), 2);
        due.is("the first one again", x.step(f, 0), 3);
        due.is("the last step", x.step(f, 7), 4);
        areWays("four steps", x, f, 0, 3);
        due.is("the first one too many", x.step(f, 0), Due.FULL);
        areWays("still four steps", x, f, 0, 3);
        int g = x.funnel(true, 100, -1);
        due.is("another funnel has room", x.step(g, 7), 1);
        areWays("one step", x, g, 1, 1);
    }

    private void boundsOfWindow() {
        due.sentence("have a WINDOW (0 .. 100000)");
        SittingDesk x = new SittingDesk();
        due.is("-1", x.funnel(true, -1, -1), Due.OUTSIDE);
        due.is("0", x.funnel(true, 0, -1), 0);
        due.is("100000", x.funnel(true, 100000, -1), 1);
        due.is("100001", x.funnel(true, 100001, -1), Due.OUTSIDE);
        due.is("how many", x.count(6), 2);
    }

    private void boundsOfBar() {
        due.sentence("and a BAR, a SORT, or NONE");
        SittingDesk x = new SittingDesk();
        due.is("-2", x.funnel(true, 0, -2), Due.OUTSIDE);
        due.is("NONE", x.funnel(true, 0, -1), 0);
        due.is("0", x.funnel(true, 0, 0), 1);
        due.is("7", x.funnel(true, 0, 7), 2);
        due.is("8", x.funnel(true, 0, 8), Due.OUTSIDE);
        due.is("how many", x.count(6), 3);
    }

    // ---- what a way is

    private void eachAnotherOne() {
        due.sentence("k CLICKS of its ROW, each another one");
        for (boolean ordered : new boolean[] {true, false}) {
            SittingDesk x = Desks.ofSorts(3);
            int two = Desks.with(x, ordered, 100, -1, 3, 3);
            int four = Desks.with(x, ordered, 100, -1, 3, 3, 3, 3);
            areWays("one click for two steps", x, two);
            x.click(0, 0, 3);
            areWays("two clicks for two steps", x, two, 0, 1);
            areWays("two clicks for four steps", x, four);
            x.click(0, 0, 3);
            areWays("three clicks for four steps", x, four);
            due.is("three of four", x.reach(four, 0), 3);
            x.click(0, 0, 3);
            areWays("four clicks for four steps", x, four, 0, 3);
        }
    }

    private void clickOfTheSortOfItsStep() {
        due.sentence("CLICK i of the SORT of STEP i");
        for (int sort = 0; sort < 8; sort++) {
            SittingDesk x = Desks.ofSorts(0, 1, 2, 3, 4, 5, 6, 7);
            areWays("one step of sort " + sort, x, Desks.with(x, true, 0, -1, sort), sort, sort);
        }
        SittingDesk y = Desks.ofSorts(0, 1, 3);
        areWays("a sort that lacks", y, Desks.with(y, false, 100, -1, 0, 1, 2));
    }

    /** Without bar and within the window, the sorts of a row alone tell how far it reaches. */
    private void everyRowOfSeven() {
        due.sentence("k CLICKS of its ROW, each another one, CLICK i of the SORT of STEP i");
        int[] steps = {0, 1, 2, 3};
        int[] doubled = {1, 0, 1, 0};
        for (int code = 0; code < 1 << 14; code++) {
            int[] sorts = new int[7];
            for (int i = 0; i < 7; i++) {
                sorts[i] = code >> 2 * i & 3;
            }
            SittingDesk x = Desks.ofSorts(sorts);
            String row = "row " + Arrays.toString(sorts);
            due.is(row + " in order", x.reach(Desks.with(x, true, 60, -1, steps), 0), inOrder(sorts, steps));
            due.is(row + " in any", x.reach(Desks.with(x, false, 60, -1, steps), 0), inAny(sorts, steps));
            due.is(row + " doubled", x.reach(Desks.with(x, false, 60, -1, doubled), 0), inAny(sorts, doubled));
        }
    }

    private static int inOrder(int[] sorts, int[] steps) {
        int done = 0;
        for (int sort : sorts) {
            done += done < steps.length && steps[done] == sort ? 1 : 0;
        }
        return done;
    }

    private static int inAny(int[] sorts, int[] steps) {
        int[] left = new int[8];
        for (int sort : sorts) {
            left[sort]++;
        }
        int done = 0;
        while (done < steps.length && left[steps[done]] > 0) {
            left[steps[done]]--;
            done++;
        }
        return done;
    }

    private void orderedBehindInTheRow() {
        due.sentence("ORDERED: each behind the one ahead of it, in the ROW");
        SittingDesk x = new SittingDesk();
        Desks.clicks(x, 0, 5, 1, 5, 0, 5, 2);
        areWays("like times: 1 ahead of 0", x, Desks.with(x, true, 0, -1, 1, 0), 0, 1);
        areWays("like times: 0 is not ahead of 1", x, Desks.with(x, true, 0, -1, 0, 1));
        areWays("like times: 1, 0, 2", x, Desks.with(x, true, 0, -1, 1, 0, 2), 0, 2);
        areWays("like times: not 1, 2, 0", x, Desks.with(x, true, 0, -1, 1, 2, 0));
        int f = Desks.with(x, true, 10, -1, 2, 0);
        areWays("not yet", x, f);
        x.click(4, 0, 2);
        areWays("a later number with a lesser time", x, f, 3, 1);
    }

    private void notOrdered() {
        due.sentence("are ORDERED, or not");
        SittingDesk x = Desks.ofSorts(3, 2, 1, 0);
        areWays("all turned round", x, Desks.with(x, false, 30, -1, 0, 1, 2, 3), 0, 3);
        areWays("ordered", x, Desks.with(x, true, 30, -1, 0, 1, 2, 3));
        areWays("ordered the other way", x, Desks.with(x, true, 30, -1, 3, 2, 1, 0), 0, 3);
        areWays("two of the midst", x, Desks.with(x, false, 30, -1, 1, 2), 1, 2);
    }

    private void windowNought() {
        due.sentence("the TIMES of the first and the last one differ by WINDOW at most (0)");
        SittingDesk x = new SittingDesk();
        Desks.clicks(x, 0, 5, 0, 6, 1);
        int f = Desks.with(x, true, 0, -1, 0, 1);
        areWays("differ by 1", x, f);
        Desks.clicks(x, 0, 5, 1);
        areWays("differ by 0", x, f, 0, 2);
    }

    private void windowAtMost() {
        due.sentence("the TIMES of the first and the last one differ by WINDOW at most");
        for (boolean ordered : new boolean[] {true, false}) {
            SittingDesk x = Desks.ofSorts(0, 2, 1);
            areWays("WINDOW 19", x, Desks.with(x, ordered, 19, -1, 0, 1));
            areWays("WINDOW 20", x, Desks.with(x, ordered, 20, -1, 0, 1), 0, 2);
            areWays("WINDOW 21", x, Desks.with(x, ordered, 21, -1, 0, 1), 0, 2);
        }
    }

    private void greatestWindow() {
        due.sentence("the TIMES of the first and the last one differ by WINDOW at most (100000)");
        SittingDesk x = new SittingDesk();
        Desks.clicks(x, 0, 100000, 0, 200000, 1);
        Desks.clicks(x, 1, 99999, 0, 200000, 1);
        int f = Desks.with(x, true, 100000, -1, 0, 1);
        areWays("differ by 100000", x, f, 0, 1);
        due.is("differ by 100001", x.ways(f, 1), 0);
        due.is("of all", x.ways(f, -1), 1);
        due.is("99999", x.ways(Desks.with(x, true, 99999, -1, 0, 1), 0), 0);
    }

    private void windowByTheEndsInTheRow() {
        due.sentence("of the first and the last one of them in the ROW");
        SittingDesk x = Desks.ofSorts(1, 0, 2);
        areWays("0 and 2 are near, 1 and 2 are not", x, Desks.with(x, false, 19, -1, 0, 1, 2));
        areWays("all within", x, Desks.with(x, false, 20, -1, 0, 1, 2), 0, 2);
        SittingDesk y = Desks.ofSorts(0, 1, 0, 2);
        areWays("a nearer first one", y, Desks.with(y, false, 20, -1, 0, 1, 2), 1, 3);
    }

    // ---- what must not come between

    private void barStrictlyBetween() {
        due.sentence("and no CLICK of the ROW strictly between these two is of the BAR");
        for (boolean ordered : new boolean[] {true, false}) {
            SittingDesk x = Desks.ofSorts(0, 5, 1);
            areWays("5 between", x, Desks.with(x, ordered, 100, 5, 0, 1));
            areWays("another bar", x, Desks.with(x, ordered, 100, 4, 0, 1), 0, 2);
            SittingDesk y = Desks.ofSorts(0, 3, 4, 5, 1);
            areWays("the last of those between", y, Desks.with(y, ordered, 100, 5, 0, 1));
            areWays("the first of those between", y, Desks.with(y, ordered, 100, 3, 0, 1));
            areWays("between the midst and the end", y, Desks.with(y, ordered, 100, 5, 0, 4, 1));
            areWays("between the beginning and the midst", y, Desks.with(y, ordered, 100, 3, 0, 4, 1));
        }
    }

    private void barAheadAndBehind() {
        due.sentence("strictly between these two (ahead of them and behind them it may be)");
        for (boolean ordered : new boolean[] {true, false}) {
            SittingDesk x = Desks.ofSorts(5, 0, 1, 5);
            areWays("on both sides", x, Desks.with(x, ordered, 100, 5, 0, 1), 1, 2);
        }
    }

    private void barAtTheEnds() {
        due.sentence("strictly between these two (the ends may be of the BAR)");
        SittingDesk x = Desks.ofSorts(5, 0, 5);
        areWays("first step is the bar", x, Desks.with(x, true, 100, 5, 5, 0), 0, 1);
        areWays("last step is the bar", x, Desks.with(x, true, 100, 5, 0, 5), 1, 2);
        areWays("both ends", x, Desks.with(x, true, 100, 5, 5, 5), 0, 2);
        areWays("one step", x, Desks.with(x, true, 0, 5, 5), 0, 0, 2, 2);
        areWays("in any order", x, Desks.with(x, false, 100, 5, 0, 5), 0, 1);
    }

    private void barThatIsOneOfTheWay() {
        due.sentence("that is not one of the k");
        for (boolean ordered : new boolean[] {true, false}) {
            SittingDesk x = Desks.ofSorts(0, 5, 1);
            areWays("a step between", x, Desks.with(x, ordered, 100, 5, 0, 5, 1), 0, 2);
            SittingDesk y = Desks.ofSorts(0, 5, 5, 1);
            areWays("two steps between", y, Desks.with(y, ordered, 100, 5, 0, 5, 5, 1), 0, 3);
        }
    }

    private void barLeftOver() {
        due.sentence("that is not one of the k (of two one is left over)");
        SittingDesk x = Desks.ofSorts(0, 5, 5, 1);
        areWays("ordered", x, Desks.with(x, true, 100, 5, 0, 5, 1));
        areWays("in any order: from the last bar on", x, Desks.with(x, false, 100, 5, 5, 1), 2, 3);
        areWays("in any order: 0, 5, 1", x, Desks.with(x, false, 100, 5, 0, 5, 1));
        areWays("up to the first bar", x, Desks.with(x, true, 100, 5, 0, 5), 0, 1);
    }

    private void barAmongLikeTimes() {
        due.sentence("strictly between these two (in the ROW, of like TIMES by numbers)");
        SittingDesk x = new SittingDesk();
        Desks.clicks(x, 0, 5, 0, 5, 6, 5, 1);
        int f = Desks.with(x, true, 0, 6, 0, 1);
        areWays("between by its number", x, f);
        SittingDesk y = new SittingDesk();
        Desks.clicks(y, 0, 5, 6, 5, 0, 5, 1, 5, 6);
        areWays("ahead and behind by their numbers", y, Desks.with(y, true, 0, 6, 0, 1), 1, 2);
    }

    private void barThatIsNotInTheRow() {
        due.sentence("no CLICK of the ROW");
        SittingDesk x = Desks.ofSorts(0, 6, 1);
        int f = Desks.with(x, true, 100, 6, 0, 1);
        areWays("in the row", x, f);
        x.strike(1, true);
        areWays("struck", x, f, 0, 2);
        x.click(15, 23, 6);
        areWays("another one's", x, f, 0, 2);
        x.join(23, 0);
        areWays("now its own", x, f);
    }

    private void noBar() {
        due.sentence("a BAR, a SORT, or NONE (nothing is barred)");
        SittingDesk x = Desks.ofSorts(0, 0, 2, 3, 4, 5, 6, 7, 1);
        areWays("all other sorts between", x, Desks.with(x, true, 80, -1, 0, 1), 0, 8);
        areWays("in any order", x, Desks.with(x, false, 80, -1, 1, 0), 0, 8);
    }

    private void barOfFirstAndLastSort() {
        due.sentence("a BAR, a SORT (0 and 7)");
        SittingDesk x = Desks.ofSorts(1, 0, 2, 1, 7, 2);
        areWays("0", x, Desks.with(x, true, 20, 0, 1, 2), 3, 5);
        areWays("7", x, Desks.with(x, true, 20, 7, 1, 2), 0, 2);
    }

    // ---- which ways are told

    private void firstClickComesFirst() {
        due.sentence("the first is that whose first CLICK in the ROW comes first in it");
        SittingDesk x = new SittingDesk();
        Desks.clicks(x, 0, 50, 0, 5, 0, 50, 1, 5, 0);
        areWays("the least time, the least number", x, Desks.with(x, true, 100, -1, 0, 1), 1, 2);
        areWays("only near ones", x, Desks.with(x, true, 44, -1, 0, 1), 0, 2);
        areWays("a longer one that begins ahead", x, Desks.with(x, true, 45, -1, 0, 1), 1, 2);
    }

    private void lastClickComesFirst() {
        due.sentence("of several that whose last CLICK comes first");
        for (boolean ordered : new boolean[] {true, false}) {
            SittingDesk x = new SittingDesk();
            Desks.clicks(x, 0, 0, 0, 20, 1, 10, 1, 10, 1);
            areWays("the least time, the least number", x, Desks.with(x, ordered, 100, -1, 0, 1), 0, 2);
        }
        SittingDesk y = Desks.ofSorts(0, 1, 0, 2, 1);
        areWays("in any order: by the end alone", y, Desks.with(y, false, 100, -1, 0, 1, 2), 0, 3);
    }

    private void nextAboveByMoreThanWindow() {
        due.sentence("a TIME above that of the first CLICK of the one ahead by more than WINDOW");
        SittingDesk x = Desks.ofTimes(100, 109, 110, 111, 121, 122);
        areWays("WINDOW 10", x, Desks.with(x, true, 10, -1, 0), 0, 0, 3, 3, 5, 5);
        areWays("WINDOW 9", x, Desks.with(x, true, 9, -1, 0), 0, 0, 2, 2, 4, 4);
        areWays("WINDOW 8", x, Desks.with(x, true, 8, -1, 0), 0, 0, 1, 1, 4, 4);
        areWays("WINDOW 21", x, Desks.with(x, true, 21, -1, 0), 0, 0, 5, 5);
        areWays("WINDOW 22", x, Desks.with(x, true, 22, -1, 0), 0, 0);
    }

    private void nextOfWindowNought() {
        due.sentence("above that of the first CLICK of the one ahead by more than WINDOW (0)");
        SittingDesk x = Desks.ofTimes(5, 5, 6, 6, 7);
        areWays("one of each time", x, Desks.with(x, true, 0, -1, 0), 0, 0, 2, 2, 4, 4);
        areWays("two of each time", x, Desks.with(x, false, 0, -1, 0, 0), 0, 1, 2, 3);
    }

    private void nextOfGreatestWindow() {
        due.sentence("above that of the first CLICK of the one ahead by more than WINDOW (100000)");
        SittingDesk x = Desks.ofTimes(0, 100000, 200000);
        int f = Desks.with(x, true, 100000, -1, 0);
        areWays("by 100000 and 200000", x, f, 0, 0, 2, 2);
        x.click(100001, 0, 0);
        areWays("by 100001", x, f, 0, 0, 3, 3);
        x.strike(0, true);
        areWays("from 100000 on", x, f, 1, 1);
    }

    private void nextByTheOneAhead() {
        due.sentence("of the one ahead ... And so on.");
        SittingDesk x = Desks.ofTimes(0, 10, 20, 30, 40, 50, 60);
        areWays("every third", x, Desks.with(x, true, 20, -1, 0), 0, 0, 3, 3, 6, 6);
        areWays("every other, with the next as end", x, Desks.with(x, true, 10, -1, 0, 0), 0, 1, 2, 3, 4, 5);
    }

    private void nextMayBeginWithin() {
        due.sentence("the first one likewise of those whose first CLICK has a TIME above");
        SittingDesk x = new SittingDesk();
        Desks.clicks(x, 0, 0, 0, 10, 1, 11, 0, 21, 1);
        areWays("from 11 on", x, Desks.with(x, true, 10, -1, 0, 1), 0, 1, 2, 3);
        SittingDesk y = new SittingDesk();
        Desks.clicks(y, 0, 0, 0, 10, 0, 15, 1, 25, 1);
        areWays("one that begins within is passed over", y, Desks.with(y, true, 15, -1, 0, 1), 0, 2);
    }

    private void barredFirstOneLeavesTheNext() {
        due.sentence("the first is that whose first CLICK in the ROW comes first (of those that are WAYS)");
        SittingDesk x = Desks.ofSorts(0, 5, 0, 1);
        areWays("a barred beginning takes no window", x, Desks.with(x, true, 100, 5, 0, 1), 2, 3);
        SittingDesk y = Desks.ofSorts(0, 0, 1);
        areWays("nor does one too early", y, Desks.with(y, true, 10, -1, 0, 1), 1, 2);
    }

    private void asManyAsThereMayBe() {
        due.sentence("And so on. (120 of them)");
        SittingDesk x = new SittingDesk();
        for (int c = 0; c < 120; c++) {
            x.click(c, 11, 7);
        }
        int f = Desks.with(x, false, 0, 7, 7);
        due.is("how many", x.ways(f, 11), 120);
        due.is("the last one", x.way(f, 11, 119, 0), 119);
        due.is("no more", x.way(f, 11, 120, 0), Due.UNKNOWN);
        int g = Desks.with(x, false, 3, 7, 7, 7, 7, 7);
        due.is("four steps", x.ways(g, 11), 30);
        due.is("the last one's end", x.way(g, 11, 29, 1), 119);
    }

    // ---- how far

    private void reachNought() {
        due.sentence("REACH: the greatest k for which it has a WAY through the first k STEPS; 0");
        SittingDesk x = Desks.ofSorts(1, 2);
        due.is("no steps", x.reach(Desks.with(x, true, 10, -1), 0), 0);
        due.is("no click of the first step", x.reach(Desks.with(x, true, 10, -1, 0, 1, 2), 0), 0);
        due.is("in any order, too", x.reach(Desks.with(x, false, 10, -1, 0, 1, 2), 0), 0);
        int f = Desks.with(x, true, 10, -1, 1, 2);
        due.is("no clicks", x.reach(f, 1), 0);
        due.is("two", x.reach(f, 0), 2);
        x.strike(1, true);
        due.is("one", x.reach(f, 0), 1);
        x.strike(0, true);
        due.is("all struck", x.reach(f, 0), 0);
        x.strike(0, false);
        x.click(0, 0, 1);
        x.rule(3, 1);
        due.is("quick", x.reach(f, 0), 0);
    }

    private void reachOfEachLength() {
        due.sentence("REACH: the greatest k (1 to 4)");
        for (boolean ordered : new boolean[] {true, false}) {
            SittingDesk x = new SittingDesk();
            int f = Desks.with(x, ordered, 0, -1, 4, 5, 6, 7);
            for (int k = 0; k < 4; k++) {
                due.is("reach " + k, x.reach(f, 0), k);
                x.click(200000, 0, 4 + k);
            }
            due.is("reach 4", x.reach(f, 0), 4);
        }
    }

    private void reachOfTheGreatest() {
        due.sentence("REACH: the greatest k for which it has a WAY (not the first one's)");
        SittingDesk x = Desks.ofSorts(0, 1, 5, 0, 1, 2, 5, 0);
        due.is("the second beginning reaches more", x.reach(Desks.with(x, true, 100, 5, 0, 1, 2), 0), 3);
        SittingDesk y = Desks.ofSorts(0, 3, 1);
        int f = Desks.with(y, false, 100, 3, 0, 1);
        due.is("two steps are barred", y.reach(f, 0), 1);
        y.step(f, 3);
        due.is("three are not", y.reach(f, 0), 3);
    }

    private void reachByTheWindow() {
        due.sentence("REACH: within the WINDOW");
        SittingDesk x = Desks.ofSorts(0, 1, 2);
        int[] windows = {0, 9, 10, 19, 20};
        int[] want = {1, 1, 2, 2, 3};
        for (int i = 0; i < windows.length; i++) {
            due.is("WINDOW " + windows[i], x.reach(Desks.with(x, true, windows[i], -1, 0, 1, 2), 0), want[i]);
        }
    }

    private void reachWithoutOrder() {
        due.sentence("REACH: through the first k STEPS (in any order)");
        SittingDesk x = Desks.ofSorts(3, 1, 0);
        due.is("0, 1", x.reach(Desks.with(x, false, 20, -1, 0, 1, 2, 3), 0), 2);
        due.is("ordered", x.reach(Desks.with(x, true, 20, -1, 0, 1, 2, 3), 0), 1);
        due.is("3, 1, 0", x.reach(Desks.with(x, false, 20, -1, 0, 1, 3, 2), 0), 3);
        due.is("a narrower window", x.reach(Desks.with(x, false, 19, -1, 0, 1, 3, 2), 0), 2);
    }

    // ---- the calls

    private void funnelAnswers() {
        due.sentence("funnel: A FUNNEL without STEPS: its number. OUTSIDE, FULL.");
        SittingDesk x = Desks.ofTimes(0);
        due.is("first", x.funnel(true, 0, -1), 0);
        due.is("the same once more", x.funnel(true, 0, -1), 1);
        due.is("without steps", x.ways(0, 0), 0);
        due.is("the first step", x.step(0, 0), 1);
        due.is("the other one has none", x.ways(1, 0), 0);
        due.is("both OUTSIDE", x.funnel(true, -1, 8), Due.OUTSIDE);
    }

    private void stepAnswers() {
        due.sentence("step: A STEP more for FUNNEL f: how many. UNKNOWN, OUTSIDE (SORT), FULL.");
        SittingDesk x = new SittingDesk();
        due.is("no funnel", x.step(0, 0), Due.UNKNOWN);
        x.funnel(true, 0, -1);
        due.is("-1", x.step(-1, 0), Due.UNKNOWN);
        due.is("1", x.step(1, 0), Due.UNKNOWN);
        for (int k = 1; k <= 4; k++) {
            due.is("step " + k, x.step(0, 0), k);
        }
        due.is("step 5", x.step(0, 0), Due.FULL);
        due.is("step 5 and SORT 8", x.step(0, 8), Due.OUTSIDE);
    }

    private void stepsAddedLater() {
        due.sentence("step: A STEP more (CLICKS were there before)");
        SittingDesk x = Desks.ofSorts(0, 1, 2);
        int f = x.funnel(true, 100, -1);
        areWays("no steps", x, f);
        x.step(f, 0);
        areWays("one", x, f, 0, 0);
        x.step(f, 2);
        areWays("two", x, f, 0, 2);
        x.step(f, 1);
        areWays("three", x, f);
    }

    private void waysAnswers() {
        due.sentence("ways: (0 without STEPS); UNKNOWN");
        SittingDesk x = Desks.ofTimes(0);
        due.is("no funnel", x.ways(0, 0), Due.UNKNOWN);
        due.is("no funnel, NONE", x.ways(0, -1), Due.UNKNOWN);
        x.funnel(true, 0, -1);
        due.is("without steps", x.ways(0, 0), 0);
        due.is("without steps, NONE", x.ways(0, -1), 0);
        x.step(0, 0);
        due.is("first who", x.ways(0, 0), 1);
        due.is("last who", x.ways(0, 23), 0);
        due.is("who 24", x.ways(0, 24), Due.UNKNOWN);
        due.is("who -2", x.ways(0, -2), Due.UNKNOWN);
        due.is("funnel -1", x.ways(-1, 0), Due.UNKNOWN);
        due.is("funnel 1", x.ways(1, 0), Due.UNKNOWN);
        due.is("funnel 1, who 24", x.ways(1, 24), Due.UNKNOWN);
    }

    private void waysOfAll() {
        due.sentence("ways: with p = NONE of all PERSONS");
        SittingDesk x = new SittingDesk();
        int f = Desks.with(x, true, 0, -1, 0);
        due.is("nobody's", x.ways(f, -1), 0);
        for (int who = 0; who < 24; who++) {
            Desks.clicks(x, who, 5, 0, 6, 0);
        }
        due.is("all", x.ways(f, -1), 48);
        x.join(12, 0);
        due.is("two of like times become one", x.ways(f, -1), 46);
        due.is("of the name", x.ways(f, 0), 2);
        due.is("of the mark", x.ways(f, 12), 2);
    }

    private void wayAnswers() {
        due.sentence("way: 0 its first CLICK in the ROW, 1 its last one. UNKNOWN (also: no such WAY), OUTSIDE.");
        SittingDesk x = Desks.ofSorts(1, 0);
        int f = Desks.with(x, false, 10, -1, 0, 1);
        due.is("by the row, not by the steps", x.way(f, 0, 0, 0), 0);
        due.is("by the row, not by the steps", x.way(f, 0, 0, 1), 1);
        due.is("what -1", x.way(f, 0, 0, -1), Due.OUTSIDE);
        due.is("what 2", x.way(f, 0, 0, 2), Due.OUTSIDE);
        due.is("way -1", x.way(f, 0, -1, 0), Due.UNKNOWN);
        due.is("way 1", x.way(f, 0, 1, 0), Due.UNKNOWN);
        due.is("way 1, what 2", x.way(f, 0, 1, 2), Due.UNKNOWN);
        due.is("who NONE", x.way(f, -1, 0, 0), Due.UNKNOWN);
        due.is("who 24", x.way(f, 24, 0, 0), Due.UNKNOWN);
        due.is("who without clicks", x.way(f, 23, 0, 0), Due.UNKNOWN);
        due.is("funnel -1", x.way(-1, 0, 0, 0), Due.UNKNOWN);
        due.is("funnel 1", x.way(1, 0, 0, 0), Due.UNKNOWN);
        x.join(23, 0);
        due.is("by a joined mark", x.way(f, 23, 0, 1), 1);
    }

    private void wayOfMany() {
        due.sentence("way: TOLD WAY i (asked in any order)");
        SittingDesk x = Desks.ofSorts(0, 1, 0, 1, 0, 1);
        x.click(5, 1, 0);
        x.click(6, 1, 1);
        int f = Desks.with(x, true, 10, -1, 0, 1);
        due.is("last way", x.way(f, 0, 2, 1), 5);
        due.is("first way of another", x.way(f, 1, 0, 0), 6);
        due.is("no second way of another", x.way(f, 1, 1, 0), Due.UNKNOWN);
        due.is("second way", x.way(f, 0, 1, 0), 2);
        due.is("no fourth way", x.way(f, 0, 3, 0), Due.UNKNOWN);
    }

    private void reachAnswers() {
        due.sentence("reach: UNKNOWN");
        SittingDesk x = Desks.ofTimes(0);
        due.is("no funnel", x.reach(0, 0), Due.UNKNOWN);
        Desks.with(x, true, 0, -1, 0);
        due.is("funnel -1", x.reach(-1, 0), Due.UNKNOWN);
        due.is("funnel 1", x.reach(1, 0), Due.UNKNOWN);
        due.is("who NONE", x.reach(0, -1), Due.UNKNOWN);
        due.is("who 24", x.reach(0, 24), Due.UNKNOWN);
        due.is("first who", x.reach(0, 0), 1);
        due.is("last who", x.reach(0, 23), 0);
        x.join(23, 0);
        due.is("last who, joined", x.reach(0, 23), 1);
    }

    private void reachedAnswers() {
        due.sentence("reached: a REACH of at least k (0 .. 4)");
        SittingDesk x = new SittingDesk();
        int f = Desks.with(x, true, 10, -1, 0, 1, 2, 3);
        for (int who = 0; who < 5; who++) {
            x.click(0, who, 7);
            for (int k = 0; k < who; k++) {
                x.click(k, who, k);
            }
        }
        for (int k = 0; k <= 4; k++) {
            due.is("reached " + k, x.reached(f, k), 5 - k);
        }
        int g = Desks.with(x, true, 10, -1);
        due.is("no steps: 0", x.reached(g, 0), 5);
        due.is("no steps: 1", x.reached(g, 1), 0);
    }

    private void reachedCountsOnlyPresent() {
        due.sentence("reached: How many PERSONS with a CLICK that COUNTS");
        SittingDesk x = new SittingDesk();
        int f = Desks.with(x, true, 0, -1, 0);
        due.is("nobody", x.reached(f, 0), 0);
        for (int who = 0; who < 24; who++) {
            x.click(who, who, 1);
        }
        due.is("all", x.reached(f, 0), 24);
        due.is("none reaches 1", x.reached(f, 1), 0);
        x.strike(5, true);
        due.is("one struck", x.reached(f, 0), 23);
        x.click(6, 6, 0);
        due.is("one reaches 1", x.reached(f, 1), 1);
        x.rule(3, 1);
        due.is("one quick", x.reached(f, 0), 22);
        due.is("none reaches 1", x.reached(f, 1), 0);
        x.join(23, 0);
        due.is("one joined", x.reached(f, 0), 21);
    }

    private void reachedOutside() {
        due.sentence("reached: UNKNOWN, OUTSIDE");
        SittingDesk x = Desks.ofTimes(0);
        due.is("no funnel", x.reached(0, 0), Due.UNKNOWN);
        due.is("no funnel, k 5", x.reached(0, 5), Due.UNKNOWN);
        Desks.with(x, true, 0, -1, 0);
        due.is("funnel -1", x.reached(-1, 0), Due.UNKNOWN);
        due.is("funnel 1", x.reached(1, 0), Due.UNKNOWN);
        due.is("k -1", x.reached(0, -1), Due.OUTSIDE);
        due.is("k 0", x.reached(0, 0), 1);
        due.is("k 4", x.reached(0, 4), 0);
        due.is("k 5", x.reached(0, 5), Due.OUTSIDE);
    }
}
