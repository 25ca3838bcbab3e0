/** "Terms", part 2, and promises 5, 9 and 10: each sentence that names an edge. */
public final class SittingEdgesTest {
    private final Due due = new Due("SittingEdgesTest");

    public static void main(String[] args) {
        SittingEdgesTest test = new SittingEdgesTest();
        test.gapAtFirst();
        test.gapNought();
        test.greatestGap();
        test.gapFromTheOneAhead();
        test.turnsOffAtFirst();
        test.turnsOn();
        test.daysAtTheirEdges();
        test.endingNoneAtFirst();
        test.endingFirstAndLastSort();
        test.endingAtTheEnd();
        test.everyClickAnEnding();
        test.onlyClicksOfTheRowEnd();
        test.oneCutForAllCauses();
        test.numberedByTheRow();
        test.numbersAfterChanges();
        test.ruleAnswersWhatItWas();
        test.ruleBounds();
        test.ruleOfNothing();
        test.sittingOfOne();
        test.sittingOfMany();
        test.sittingsThereAreNot();
        test.sittingOutside();
        test.sittingByTheMark();
        test.countsOfAnEmptyDesk();
        test.countsOfAFullDesk();
        test.countsOfStruckAndQuick();
        test.countOutside();
        test.due.end();
    }

    /** The numbers of the sittings of the first clicks. */
    private void sittings(String what, SittingDesk x, int... want) {
        int[] got = new int[want.length];
        for (int c = 0; c < want.length; c++) {
            got[c] = x.told(c, 5);
        }
        due.are(what + ": sitting of click", got, want);
    }

    private void gapAtFirst() {
        due.sentence("lesser by more than GAP (30 at first)");
        sittings("30 and 31", Desks.ofTimes(100, 130, 161), 0, 0, 1);
        sittings("29", Desks.ofTimes(100, 129), 0, 0);
        due.is("what it was", new SittingDesk().rule(0, 31), 30);
    }

    private void gapNought() {
        due.sentence("lesser by more than GAP (0 .. 10000): 0");
        SittingDesk x = Desks.ofTimes(5, 5, 6, 6, 7);
        x.rule(0, 0);
        sittings("GAP 0", x, 0, 0, 1, 1, 2);
        x.rule(0, 1);
        sittings("GAP 1", x, 0, 0, 0, 0, 0);
    }

    private void greatestGap() {
        due.sentence("lesser by more than GAP (0 .. 10000): 10000");
        SittingDesk x = Desks.ofTimes(0, 10000, 20001, 200000);
        x.rule(0, 10000);
        sittings("GAP 10000", x, 0, 0, 1, 2);
        x.rule(0, 9999);
        sittings("GAP 9999", x, 0, 1, 2, 3);
        due.is("10001", x.rule(0, 10001), Due.OUTSIDE);
        due.is("-1", x.rule(0, -1), Due.OUTSIDE);
        due.is("as it was", x.rule(0, 30), 9999);
    }

    private void gapFromTheOneAhead() {
        due.sentence("if the CLICK ahead of it has a TIME lesser by more than GAP");
        sittings("each by the one ahead, not by the first", Desks.ofTimes(0, 30, 60, 90), 0, 0, 0, 0);
        SittingDesk x = Desks.ofTimes(0, 60);
        sittings("two", x, 0, 1);
        x.click(30, 1, 0);
        sittings("another one's click is no bridge", x, 0, 1, 0);
        x.click(30, 0, 0);
        sittings("its own is", x, 0, 0, 0, 0);
        x.strike(3, true);
        sittings("a struck one is not", x, 0, 1, 0, Due.NONE);
    }

    private void turnsOffAtFirst() {
        due.sentence("with TURNS on (off at first)");
        sittings("off", Desks.ofTimes(1439, 1440), 0, 0);
        due.is("what it was", new SittingDesk().rule(1, 1), 0);
    }

    private void turnsOn() {
        due.sentence("with TURNS on, another DAY");
        SittingDesk x = Desks.ofTimes(1438, 1439, 1440, 1441);
        x.rule(1, 1);
        sittings("on", x, 0, 0, 1, 1);
        x.rule(1, 0);
        sittings("off again", x, 0, 0, 0, 0);
    }

    private void daysAtTheirEdges() {
        due.sentence("another DAY (TIME / 1440)");
        SittingDesk x = Desks.ofTimes(0, 1439, 1440, 2879, 2880, 10000, 198719, 198720, 200000);
        x.rule(0, 10000);
        x.rule(1, 1);
        sittings("days 0, 1, 2, 6, 137, 138", x, 0, 0, 1, 1, 2, 3, 4, 5, 5);
    }

    private void endingNoneAtFirst() {
        due.sentence("or is of the ENDING SORT (NONE at first)");
        sittings("none", Desks.ofSorts(0, 1, 2, 3, 4, 5, 6, 7), 0, 0, 0, 0, 0, 0, 0, 0);
        due.is("what it was", new SittingDesk().rule(2, 0), Due.NONE);
        SittingDesk x = Desks.ofSorts(3, 3, 3);
        x.rule(2, 3);
        sittings("3", x, 0, 1, 2);
        due.is("NONE again", x.rule(2, -1), 3);
        sittings("none again", x, 0, 0, 0);
    }

    private void endingFirstAndLastSort() {
        due.sentence("or is of the ENDING SORT (0 and 7)");
        SittingDesk x = Desks.ofSorts(1, 0, 6, 7, 1);
        x.rule(2, 0);
        sittings("0", x, 0, 0, 1, 1, 1);
        x.rule(2, 7);
        sittings("7", x, 0, 0, 0, 0, 1);
        due.is("8", x.rule(2, 8), Due.OUTSIDE);
        due.is("-2", x.rule(2, -2), Due.OUTSIDE);
        due.is("as it was", x.rule(2, -1), 7);
    }

    private void endingAtTheEnd() {
        due.sentence("cut ahead of a CLICK, if the CLICK ahead of it is of the ENDING SORT");
        SittingDesk x = Desks.ofSorts(0, 5);
        x.rule(2, 5);
        sittings("the ending is within its sitting", x, 0, 0);
        due.is("none behind it", x.person(0, 4), 1);
        x.click(10, 0, 0);
        sittings("like time, behind the ending", x, 0, 0, 1);
        x.click(9, 0, 5);
        sittings("a late ending", x, 0, 1, 2, 0);
    }

    private void everyClickAnEnding() {
        due.sentence("of the ENDING SORT (all CLICKS, 120 of them)");
        SittingDesk x = new SittingDesk();
        for (int c = 0; c < 120; c++) {
            x.click(50, 0, 6);
        }
        due.is("one sitting", x.person(0, 4), 1);
        x.rule(2, 6);
        due.is("120 sittings", x.person(0, 4), 120);
        due.is("all sittings", x.count(2), 120);
        due.is("the last one's number", x.told(119, 5), 119);
        due.is("the last one's click", x.sitting(0, 119, 0), 119);
        due.is("no more", x.sitting(0, 120, 0), Due.UNKNOWN);
    }

    private void onlyClicksOfTheRowEnd() {
        due.sentence("its ROW is cut");
        SittingDesk x = Desks.ofSorts(0, 5, 0);
        x.rule(2, 5);
        sittings("cut", x, 0, 0, 1);
        x.strike(1, true);
        sittings("a struck ending cuts nothing", x, 0, Due.NONE, 0);
        x.click(15, 1, 5);
        sittings("nor another one's", x, 0, Due.NONE, 0, 0);
    }

    private void oneCutForAllCauses() {
        due.sentence("lesser by more than GAP; or another DAY; or of the ENDING SORT (all at once)");
        SittingDesk x = new SittingDesk();
        Desks.clicks(x, 0, 1000, 2, 5000, 0);
        x.rule(1, 1);
        x.rule(2, 2);
        sittings("one cut", x, 0, 1);
        due.is("two sittings", x.person(0, 4), 2);
        x.rule(0, 10000);
        sittings("without the gap", x, 0, 1);
        x.rule(1, 0);
        sittings("without the day", x, 0, 1);
        x.rule(2, -1);
        sittings("without the ending", x, 0, 0);
    }

    private void numberedByTheRow() {
        due.sentence("They are numbered by the ROW.");
        sittings("told from the last to the first", Desks.ofTimes(500, 400, 300, 399), 2, 1, 0, 1);
    }

    private void numbersAfterChanges() {
        due.sentence("They are numbered by the ROW. (after changes)");
        SittingDesk x = Desks.ofTimes(100, 200, 300);
        x.strike(0, true);
        sittings("the first one struck", x, Due.NONE, 0, 1);
        x.strike(1, true);
        x.strike(2, true);
        sittings("all struck", x, Due.NONE, Due.NONE, Due.NONE);
        due.is("no sittings", x.person(0, 4), 0);
        x.strike(0, false);
        x.strike(1, false);
        x.strike(2, false);
        x.click(0, 12, 0);
        sittings("all back", x, 0, 1, 2, 0);
        x.join(12, 0);
        sittings("with the mark's ahead", x, 1, 2, 3, 0);
    }

    private void ruleAnswersWhatItWas() {
        due.sentence("rule: becomes v: what it was");
        int[] atFirst = {30, 0, Due.NONE, 0, 1, 0};
        int[] other = {0, 1, 7, 100, 10000, 7};
        SittingDesk x = new SittingDesk();
        for (int what = 0; what < 6; what++) {
            due.is("at first, " + what, x.rule(what, other[what]), atFirst[what]);
        }
        for (int what = 0; what < 6; what++) {
            due.is("then, " + what, x.rule(what, other[what]), other[what]);
            due.is("the same again, " + what, x.rule(what, atFirst[what]), other[what]);
        }
        for (int what = 0; what < 6; what++) {
            due.is("back, " + what, x.rule(what, atFirst[what]), atFirst[what]);
        }
    }

    private void ruleBounds() {
        due.sentence("rule: 0 GAP, 1 TURNS (1 on, 0 off), 2 (NONE), 3 RATE (0 .. 100), 4 SPAN (1 .. 10000), 5");
        int[] least = {0, 0, -1, 0, 1, 0};
        int[] greatest = {10000, 1, 7, 100, 10000, 7};
        for (int what = 0; what < 6; what++) {
            SittingDesk x = new SittingDesk();
            int was = x.rule(what, least[what]);
            due.is("too small, " + what, x.rule(what, least[what] - 1), Due.OUTSIDE);
            due.is("it is the least, " + what, x.rule(what, greatest[what]), least[what]);
            due.is("too large, " + what, x.rule(what, greatest[what] + 1), Due.OUTSIDE);
            due.is("it is the greatest, " + what, x.rule(what, was), greatest[what]);
        }
        SittingDesk x = new SittingDesk();
        due.is("SPAN 0", x.rule(4, 0), Due.OUTSIDE);
        due.is("no NONE of the SORT of BIRTHS", x.rule(5, -1), Due.OUTSIDE);
        due.is("TURNS 2", x.rule(1, 2), Due.OUTSIDE);
        due.is("TURNS -1", x.rule(1, -1), Due.OUTSIDE);
    }

    private void ruleOfNothing() {
        due.sentence("rule: OUTSIDE (what)");
        SittingDesk x = new SittingDesk();
        due.is("what -1", x.rule(-1, 0), Due.OUTSIDE);
        due.is("what 6", x.rule(6, 0), Due.OUTSIDE);
        due.is("what 5 is the last", x.rule(5, 7), 0);
        due.is("what 0 is the first", x.rule(0, 0), 30);
    }

    private void sittingOfOne() {
        due.sentence("sitting: 0 its first CLICK, 1 its last one, 2 how many, 3 the minutes (of one)");
        SittingDesk x = Desks.ofTimes(200000);
        due.are("what", sitting(x, 0, 0), 0, 0, 1, 0);
    }

    private static int[] sitting(SittingDesk x, int p, int i) {
        int[] answers = new int[4];
        for (int what = 0; what < 4; what++) {
            answers[what] = x.sitting(p, i, what);
        }
        return answers;
    }

    private void sittingOfMany() {
        due.sentence("sitting: 0 its first CLICK, 1 its last one, 2 how many, 3 the minutes (of many)");
        SittingDesk x = new SittingDesk();
        for (int c = 0; c < 120; c++) {
            x.click(200000 - 1000 * c, 9, 0);
        }
        due.are("the first: what", sitting(x, 9, 0), 119, 119, 1, 0);
        due.are("the last: what", sitting(x, 9, 119), 0, 0, 1, 0);
        x.rule(0, 1000);
        due.are("all in one: what", sitting(x, 9, 0), 119, 0, 120, 119000);
        due.is("no other", x.sitting(9, 1, 0), Due.UNKNOWN);
        due.are("like times: what", sitting(Desks.ofTimes(7, 7, 7), 0, 0), 0, 2, 3, 0);
    }

    private void sittingsThereAreNot() {
        due.sentence("sitting: UNKNOWN (also: there is no such SITTING)");
        SittingDesk x = Desks.ofTimes(0, 100);
        due.is("-1", x.sitting(0, -1, 0), Due.UNKNOWN);
        due.is("the first", x.sitting(0, 0, 0), 0);
        due.is("the last", x.sitting(0, 1, 0), 1);
        due.is("behind", x.sitting(0, 2, 0), Due.UNKNOWN);
        due.is("who -1", x.sitting(-1, 0, 0), Due.UNKNOWN);
        due.is("who 24", x.sitting(24, 0, 0), Due.UNKNOWN);
        due.is("of a who without clicks", x.sitting(23, 0, 0), Due.UNKNOWN);
        x.strike(1, true);
        due.is("NONE is no sitting", x.sitting(0, -1, 0), Due.UNKNOWN);
        due.is("the last one is gone", x.sitting(0, 1, 0), Due.UNKNOWN);
        x.strike(0, true);
        due.is("the first one is gone", x.sitting(0, 0, 0), Due.UNKNOWN);
    }

    private void sittingOutside() {
        due.sentence("sitting: OUTSIDE");
        SittingDesk x = Desks.ofTimes(0);
        due.is("what -1", x.sitting(0, 0, -1), Due.OUTSIDE);
        due.is("what 4", x.sitting(0, 0, 4), Due.OUTSIDE);
        due.is("no such sitting, what 4", x.sitting(0, 1, 4), Due.UNKNOWN);
        due.is("no such who, what 4", x.sitting(24, 0, 4), Due.UNKNOWN);
    }

    private void sittingByTheMark() {
        due.sentence("sitting: Of SITTING i of the PERSON of WHO p");
        SittingDesk x = Desks.ofTimes(0);
        x.click(5, 12, 0);
        due.are("the mark's own: what", sitting(x, 12, 0), 1, 1, 1, 0);
        x.join(12, 0);
        due.are("the name's: what", sitting(x, 12, 0), 0, 1, 2, 5);
    }

    private static int[] counts(SittingDesk x) {
        int[] answers = new int[7];
        for (int what = 0; what < 7; what++) {
            answers[what] = x.count(what);
        }
        return answers;
    }

    private void countsOfAnEmptyDesk() {
        due.sentence("count (nothing there)");
        due.are("what", counts(new SittingDesk()), 0, 0, 0, 0, 0, 0, 0);
    }

    private void countsOfAFullDesk() {
        due.sentence("count (all that there may be)");
        SittingDesk x = new SittingDesk();
        for (int c = 0; c < 120; c++) {
            x.click(100 * c, c % 24, 0);
        }
        for (int f = 0; f < 7; f++) {
            x.funnel(true, 0, 0);
        }
        due.are("none joined: what", counts(x), 120, 120, 120, 24, 0, 0, 6);
        for (int mark = 12; mark < 24; mark++) {
            x.join(mark, mark - 12);
        }
        due.are("all joined: what", counts(x), 120, 120, 120, 12, 0, 12, 6);
        x.rule(3, 1);
        x.rule(4, 10000);
        due.are("all quick: what", counts(x), 120, 0, 0, 0, 12, 12, 6);
    }

    private void countsOfStruckAndQuick() {
        due.sentence("count: 1 that COUNT, 2 SITTINGS of all PERSONS, 3 PERSONS with a CLICK that COUNTS, 4 QUICK");
        SittingDesk x = new SittingDesk();
        Desks.clicks(x, 0, 0, 0, 100, 0);
        Desks.clicks(x, 1, 0, 0);
        Desks.clicks(x, 23, 5, 0, 5, 0);
        due.are("what", counts(x), 5, 5, 4, 3, 0, 0, 0);
        x.strike(2, true);
        due.are("one struck: what", counts(x), 5, 4, 3, 2, 0, 0, 0);
        x.rule(3, 1);
        due.are("one quick: what", counts(x), 5, 2, 2, 1, 1, 0, 0);
        x.join(23, 0);
        due.are("joined: what", counts(x), 5, 0, 0, 0, 1, 1, 0);
    }

    private void countOutside() {
        due.sentence("count: OUTSIDE");
        SittingDesk x = Desks.busy();
        due.is("-1", x.count(-1), Due.OUTSIDE);
        due.is("0 is the first", x.count(0), 9);
        due.is("6 is the last", x.count(6), 3);
        due.is("7", x.count(7), Due.OUTSIDE);
    }
}
