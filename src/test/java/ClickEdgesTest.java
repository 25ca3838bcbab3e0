/** "Terms", part 1, and promises 1 to 4 and 6 to 8: each sentence that names an edge. */
public final class ClickEdgesTest {
    private final Due due = new Due("ClickEdgesTest");

    public static void main(String[] args) {
        ClickEdgesTest test = new ClickEdgesTest();
        test.roomForClicks();
        test.roomIsNotGivenBack();
        test.boundsOfTime();
        test.boundsOfWho();
        test.boundsOfSort();
        test.marksJoined();
        test.allMarksToOneName();
        test.clicksToCome();
        test.personsAreNamesAndFreeMarks();
        test.moreThanRate();
        test.moreThanGreatestRate();
        test.struckOnesAreNotQuick();
        test.lessThanSpan();
        test.lessThanGreatestSpan();
        test.greatestLessTheLeast();
        test.rateNought();
        test.quickByWholePerson();
        test.counts();
        test.likeTimes();
        test.rowAtTheEdgesOfTime();
        test.newObject();
        test.clickAnswers();
        test.strikeAnswers();
        test.joinAnswers();
        test.toldAnswers();
        test.personAnswers();
        test.personOfNobody();
        test.rowAnswers();
        test.lastCall();
        test.due.end();
    }

    private static SittingDesk quickRules(int rate, int span) {
        SittingDesk x = new SittingDesk();
        x.rule(3, rate);
        x.rule(4, span);
        return x;
    }

    private void roomForClicks() {
        due.sentence("CLICKS (120 at most)");
        SittingDesk x = new SittingDesk();
        for (int c = 0; c < 119; c++) {
            x.click(c, c % 24, c % 8);
        }
        due.is("the last one that there is room for", x.click(5, 23, 7), 119);
        due.is("the first one too many", x.click(5, 23, 7), Due.FULL);
        due.is("and again", x.click(0, 0, 0), Due.FULL);
        due.is("how many", x.count(0), 120);
        due.is("that count", x.count(1), 120);
        due.is("the last one is there", x.told(119, 0), 5);
        due.is("no more", x.told(120, 0), Due.UNKNOWN);
    }

    private void roomIsNotGivenBack() {
        due.sentence("CLICKS (120 at most): STRUCK ones and those of JOINED MARKS, too");
        SittingDesk x = new SittingDesk();
        for (int c = 0; c < 120; c++) {
            x.click(100, 12, 0);
        }
        x.strike(0, true);
        x.strike(119, true);
        due.is("with two struck", x.click(0, 0, 0), Due.FULL);
        due.is("how many", x.count(0), 120);
        due.is("that count", x.count(1), 118);
        due.is("all are the mark's", x.join(12, 11), 120);
        due.is("with the mark joined", x.click(0, 0, 0), Due.FULL);
        due.is("the name has all of them", x.person(11, 1), 120);
        due.is("first of the row", x.row(11, 0), 1);
        due.is("last of the row", x.row(11, 117), 118);
        due.is("behind the row", x.row(11, 118), Due.NONE);
    }

    private void boundsOfTime() {
        due.sentence("a TIME (minutes, 0 .. 200000)");
        SittingDesk x = new SittingDesk();
        due.is("-1", x.click(-1, 0, 0), Due.OUTSIDE);
        due.is("0", x.click(0, 0, 0), 0);
        due.is("200000", x.click(200000, 0, 0), 1);
        due.is("200001", x.click(200001, 0, 0), Due.OUTSIDE);
        due.is("told", x.told(0, 0), 0);
        due.is("told", x.told(1, 0), 200000);
    }

    private void boundsOfWho() {
        due.sentence("a WHO (0 .. 11 NAMES, 12 .. 23 MARKS)");
        SittingDesk x = new SittingDesk();
        due.is("-1", x.click(0, -1, 0), Due.UNKNOWN);
        for (int who = 0; who < 24; who++) {
            due.is("click of " + who, x.click(0, who, 0), who);
            due.is("who of " + who, x.told(who, 1), who);
            due.is("person of " + who, x.told(who, 3), who);
        }
        due.is("24", x.click(0, 24, 0), Due.UNKNOWN);
        due.is("persons", x.count(3), 24);
        due.is("11 is a name", x.join(23, 11), 1);
        due.is("11 is no mark", x.join(11, 0), Due.UNKNOWN);
        due.is("12 is no name", x.join(13, 12), Due.UNKNOWN);
        due.is("12 is a mark", x.join(12, 0), 1);
    }

    private void boundsOfSort() {
        due.sentence("a SORT (0 .. 7)");
        SittingDesk x = new SittingDesk();
        due.is("-1", x.click(0, 0, -1), Due.OUTSIDE);
        for (int sort = 0; sort < 8; sort++) {
            due.is("sort " + sort, x.click(0, 0, sort), sort);
            due.is("told " + sort, x.told(sort, 2), sort);
        }
        due.is("8", x.click(0, 0, 8), Due.OUTSIDE);
        due.is("how many", x.count(0), 8);
    }

    private void marksJoined() {
        due.sentence("A MARK may be JOINED to a NAME: then all its CLICKS are that NAME's.");
        SittingDesk x = new SittingDesk();
        x.click(30, 12, 0);
        x.click(20, 23, 0);
        x.click(10, 0, 0);
        x.click(0, 11, 0);
        due.is("the first mark to the first name", x.join(12, 0), 1);
        due.is("the last mark to the last name", x.join(23, 11), 1);
        due.is("its person", x.told(0, 3), 0);
        due.is("its who stays", x.told(0, 1), 12);
        due.is("its person", x.told(1, 3), 11);
        due.is("its who stays", x.told(1, 1), 23);
        due.is("row of 0", x.row(0, 1), 0);
        due.is("row of 11", x.row(11, 1), 1);
        due.is("by the mark", x.row(12, 0), 2);
        due.is("by the mark", x.row(23, 0), 3);
    }

    private void allMarksToOneName() {
        due.sentence("A MARK may be JOINED to a NAME (all of them to one)");
        SittingDesk x = new SittingDesk();
        for (int mark = 12; mark < 24; mark++) {
            x.click(100 - mark, mark, 0);
            due.is("joined before", x.count(5), mark - 12);
            due.is("join " + mark, x.join(mark, 4), 1);
        }
        due.is("marks that are joined", x.count(5), 12);
        due.is("clicks", x.person(4, 1), 12);
        due.is("the last mark's is the first", x.row(4, 0), 11);
        due.is("persons with clicks", x.count(3), 1);
    }

    private void clicksToCome() {
        due.sentence("also those to come, are that NAME's");
        SittingDesk x = new SittingDesk();
        due.is("a mark without clicks", x.join(23, 3), 0);
        due.is("a click to come", x.click(200000, 23, 1), 0);
        due.is("is the name's", x.told(0, 3), 3);
        due.is("in its row", x.row(3, 0), 0);
        due.is("not the next mark's", x.row(22, 0), Due.NONE);
    }

    private void personsAreNamesAndFreeMarks() {
        due.sentence("PERSONS are NAMES, and MARKS that are not JOINED.");
        SittingDesk x = new SittingDesk();
        x.click(0, 14, 0);
        x.click(0, 0, 0);
        due.is("two persons", x.count(3), 2);
        due.is("two sittings", x.count(2), 2);
        due.is("two births", x.born(0), 2);
        x.join(14, 0);
        due.is("one person", x.count(3), 1);
        due.is("one sitting", x.count(2), 1);
        due.is("one birth", x.born(0), 1);
    }

    private void moreThanRate() {
        due.sentence("A PERSON is QUICK, if more than RATE of its CLICKS");
        SittingDesk x = quickRules(1, 5);
        x.click(10, 0, 0);
        due.is("RATE 1: one click", x.person(0, 3), 0);
        x.click(10, 0, 0);
        due.is("RATE 1: two clicks", x.person(0, 3), 1);
        x.rule(3, 2);
        due.is("RATE 2: two clicks", x.person(0, 3), 0);
        x.click(10, 0, 0);
        due.is("RATE 2: three clicks", x.person(0, 3), 1);
        x.rule(3, 3);
        due.is("RATE 3: three clicks", x.person(0, 3), 0);
    }

    private void moreThanGreatestRate() {
        due.sentence("A PERSON is QUICK, if more than RATE of its CLICKS (RATE 100)");
        SittingDesk x = quickRules(100, 1);
        for (int c = 0; c < 100; c++) {
            x.click(7, 0, 0);
        }
        due.is("100 clicks", x.person(0, 3), 0);
        due.is("all count", x.person(0, 2), 100);
        x.click(7, 0, 0);
        due.is("101 clicks", x.person(0, 3), 1);
        due.is("none counts", x.person(0, 2), 0);
        x.strike(50, true);
        due.is("one struck", x.person(0, 3), 0);
        due.is("the others count", x.person(0, 2), 100);
    }

    private void struckOnesAreNotQuick() {
        due.sentence("of its CLICKS that are not STRUCK");
        SittingDesk x = quickRules(2, 10);
        x.click(0, 0, 0);
        x.click(4, 0, 0);
        x.click(9, 0, 0);
        due.is("three of three", x.person(0, 3), 1);
        for (int c = 0; c < 3; c++) {
            x.strike(c, true);
            due.is("without click " + c, x.person(0, 3), 0);
            due.is("does not count " + c, x.told(c, 4), 0);
            x.strike(c, false);
            due.is("with click " + c, x.person(0, 3), 1);
        }
    }

    private void lessThanSpan() {
        due.sentence("have TIMES that differ by less than SPAN");
        SittingDesk x = quickRules(1, 1);
        x.click(100, 0, 0);
        x.click(101, 0, 0);
        due.is("SPAN 1, differ by 1", x.person(0, 3), 0);
        x.rule(4, 2);
        due.is("SPAN 2, differ by 1", x.person(0, 3), 1);
        x.rule(4, 1);
        x.click(101, 0, 0);
        due.is("SPAN 1, differ by 0", x.person(0, 3), 1);
    }

    private void lessThanGreatestSpan() {
        due.sentence("have TIMES that differ by less than SPAN (10000)");
        SittingDesk x = quickRules(1, 10000);
        x.click(190000, 0, 0);
        x.click(200000, 0, 0);
        due.is("differ by 10000", x.person(0, 3), 0);
        x.click(180001, 0, 0);
        due.is("differ by 9999", x.person(0, 3), 1);
        x.click(0, 1, 0);
        x.click(9999, 1, 0);
        due.is("differ by 9999 from 0 on", x.person(1, 3), 1);
        due.is("two are quick", x.count(4), 2);
    }

    private void greatestLessTheLeast() {
        due.sentence("(the greatest less the least of them)");
        SittingDesk x = quickRules(2, 10);
        x.click(20, 0, 0);
        x.click(0, 0, 0);
        x.click(10, 0, 0);
        x.click(29, 0, 0);
        due.is("neighbours are near, three are not", x.person(0, 3), 0);
        x.click(19, 0, 0);
        due.is("10, 19 and 20 are not, 19, 20 and 29 are not", x.person(0, 3), 0);
        x.click(28, 0, 0);
        due.is("19, 20 and 28 are", x.person(0, 3), 1);
        x.strike(5, true);
        x.click(11, 0, 0);
        due.is("in the midst of the row: 11, 19 and 20", x.person(0, 3), 1);
        x.strike(6, true);
        x.click(9, 0, 0);
        due.is("at its beginning: 0, 9 and 10", x.person(0, 3), 0);
        x.strike(7, true);
        x.click(8, 0, 0);
        x.click(9, 0, 0);
        due.is("at its beginning: 0, 8 and 9", x.person(0, 3), 1);
    }

    private void rateNought() {
        due.sentence("with RATE 0 nobody is");
        SittingDesk x = new SittingDesk();
        x.click(5, 0, 0);
        due.is("at first, one click", x.person(0, 3), 0);
        x.click(5, 0, 0);
        x.click(5, 12, 0);
        x.rule(4, 10000);
        due.is("two clicks", x.person(0, 3), 0);
        due.is("nobody", x.count(4), 0);
        due.is("all count", x.count(1), 3);
        x.rule(3, 1);
        due.is("RATE 1", x.count(4), 1);
        x.rule(3, 0);
        due.is("RATE 0 again", x.count(4), 0);
        due.is("all count again", x.count(1), 3);
    }

    private void quickByWholePerson() {
        due.sentence("A PERSON is QUICK (a NAME with its MARKS; a MARK alone)");
        SittingDesk x = quickRules(1, 5);
        x.click(10, 20, 0);
        x.click(12, 21, 0);
        due.is("each alone is not", x.count(4), 0);
        x.join(20, 6);
        x.join(21, 6);
        due.is("together they are", x.person(6, 3), 1);
        due.is("by the mark", x.person(20, 3), 1);
        due.is("once", x.count(4), 1);
        x.click(10, 22, 0);
        x.click(10, 22, 0);
        due.is("a mark may be, too", x.person(22, 3), 1);
        due.is("two", x.count(4), 2);
        due.is("nobody else", x.person(7, 3), 0);
    }

    private void counts() {
        due.sentence("A CLICK COUNTS, if it is not STRUCK, and its PERSON is not QUICK.");
        SittingDesk x = quickRules(1, 5);
        x.click(10, 0, 0);
        due.is("neither", x.told(0, 4), 1);
        x.strike(0, true);
        due.is("struck", x.told(0, 4), 0);
        x.click(10, 0, 0);
        x.click(11, 0, 0);
        due.is("both", x.told(0, 4), 0);
        due.is("quick", x.told(1, 4), 0);
        due.is("quick", x.told(2, 4), 0);
        x.click(500, 0, 0);
        due.is("quick, and far from the others", x.told(3, 4), 0);
        x.strike(2, true);
        due.is("quick no more", x.told(1, 4), 1);
        due.is("quick no more", x.told(3, 4), 1);
        due.is("struck as before", x.told(0, 4), 0);
    }

    private void likeTimes() {
        due.sentence("its CLICKS that COUNT, by TIMES, of like ones by numbers");
        SittingDesk x = new SittingDesk();
        x.click(50, 13, 0);
        x.click(50, 1, 0);
        x.click(49, 1, 0);
        x.click(50, 12, 0);
        x.click(51, 1, 0);
        x.click(50, 1, 0);
        x.join(12, 1);
        x.join(13, 1);
        int[] want = {2, 0, 1, 3, 5, 4};
        for (int i = 0; i < want.length; i++) {
            due.is("place " + i, x.row(1, i), want[i]);
            due.is("place of " + want[i], x.told(want[i], 6), i);
        }
        x.strike(0, true);
        x.strike(0, false);
        due.is("struck and back: where it was", x.row(1, 1), 0);
    }

    private void rowAtTheEdgesOfTime() {
        due.sentence("A PERSON's ROW: by TIMES (from 200000 down to 0)");
        SittingDesk x = new SittingDesk();
        int[] times = {200000, 199999, 1, 0};
        for (int time : times) {
            x.click(time, 23, 0);
        }
        for (int i = 0; i < 4; i++) {
            due.is("place " + i, x.row(23, i), 3 - i);
        }
    }

    private void newObject() {
        due.sentence("No CLICKS, no FUNNELS; nothing JOINED; RATE 0, SPAN 1.");
        SittingDesk x = new SittingDesk();
        due.is("no clicks", x.count(0), 0);
        due.is("no click 0", x.told(0, 0), Due.UNKNOWN);
        due.is("no funnels", x.count(6), 0);
        due.is("no funnel 0", x.reach(0, 0), Due.UNKNOWN);
        due.is("nothing joined", x.count(5), 0);
        for (int mark = 12; mark < 24; mark++) {
            due.is("not joined: " + mark, x.person(mark, 0), mark);
        }
        due.is("RATE", x.rule(3, 1), 0);
        due.is("SPAN", x.rule(4, 10000), 1);
        SittingDesk y = new SittingDesk();
        due.is("another object's RATE", y.rule(3, 0), 0);
        due.is("another object's SPAN", y.rule(4, 1), 1);
    }

    private void clickAnswers() {
        due.sentence("click: A CLICK: its number. UNKNOWN: WHO; OUTSIDE, FULL.");
        SittingDesk x = new SittingDesk();
        due.is("first", x.click(200000, 23, 7), 0);
        due.is("the same once more", x.click(200000, 23, 7), 1);
        due.is("UNKNOWN", x.click(0, 24, 0), Due.UNKNOWN);
        due.is("OUTSIDE", x.click(0, 0, 8), Due.OUTSIDE);
        due.is("next", x.click(0, 0, 0), 2);
    }

    private void strikeAnswers() {
        due.sentence("strike: from now on, or not: 1 if it was, 0. UNKNOWN.");
        SittingDesk x = new SittingDesk();
        due.is("none yet", x.strike(0, false), Due.UNKNOWN);
        x.click(0, 0, 0);
        x.click(0, 0, 0);
        due.is("not struck, not struck", x.strike(1, false), 0);
        due.is("not struck, struck", x.strike(1, true), 0);
        due.is("struck, struck", x.strike(1, true), 1);
        due.is("the other one", x.strike(0, true), 0);
        due.is("empty row", x.row(0, 0), Due.NONE);
        due.is("struck, not struck", x.strike(1, false), 1);
        due.is("not struck", x.strike(1, false), 0);
        due.is("row of one", x.row(0, 0), 1);
        due.is("UNKNOWN", x.strike(2, true), Due.UNKNOWN);
        due.is("UNKNOWN", x.strike(-1, true), Due.UNKNOWN);
        due.is("a click to come is not struck", x.click(0, 0, 0), 2);
        due.is("a click to come is not struck", x.strike(2, false), 0);
    }

    private void joinAnswers() {
        due.sentence("join: how many CLICKS it has (STRUCK ones, too). NOT: it is JOINED.");
        SittingDesk x = new SittingDesk();
        x.click(0, 12, 0);
        x.click(0, 12, 0);
        x.click(0, 13, 0);
        x.click(0, 0, 0);
        x.strike(0, true);
        x.strike(1, true);
        due.is("two struck ones", x.join(12, 0), 2);
        due.is("not the name's", x.join(13, 0), 1);
        due.is("none", x.join(14, 0), 0);
        due.is("NOT", x.join(12, 0), Due.NOT);
        due.is("NOT, without clicks", x.join(14, 1), Due.NOT);
        SittingDesk y = quickRules(1, 1);
        y.click(0, 12, 0);
        y.click(0, 12, 0);
        due.is("those of a quick mark", y.join(12, 11), 2);
    }

    private void toldAnswers() {
        due.sentence("told: 4 whether it COUNTS, 5 (NONE: it does not count), 6 its place (NONE)");
        SittingDesk x = new SittingDesk();
        x.click(200000, 12, 7);
        due.are("counts: what", told(x, 0), 200000, 12, 7, 12, 1, 0, 0);
        x.strike(0, true);
        due.are("struck: what", told(x, 0), 200000, 12, 7, 12, 0, Due.NONE, Due.NONE);
        x.join(12, 11);
        due.are("joined: what", told(x, 0), 200000, 12, 7, 11, 0, Due.NONE, Due.NONE);
        x.strike(0, false);
        x.click(200000, 11, 0);
        x.rule(3, 1);
        due.are("quick: what", told(x, 0), 200000, 12, 7, 11, 0, Due.NONE, Due.NONE);
        due.are("quick: what", told(x, 1), 200000, 11, 0, 11, 0, Due.NONE, Due.NONE);
        due.is("what -1", x.told(0, -1), Due.OUTSIDE);
        due.is("what 7", x.told(0, 7), Due.OUTSIDE);
        due.is("click 2", x.told(2, 0), Due.UNKNOWN);
        due.is("click -1", x.told(-1, 0), Due.UNKNOWN);
    }

    private static int[] told(SittingDesk x, int c) {
        int[] answers = new int[7];
        for (int what = 0; what < 7; what++) {
            answers[what] = x.told(c, what);
        }
        return answers;
    }

    private static int[] person(SittingDesk x, int p) {
        int[] answers = new int[6];
        for (int what = 0; what < 6; what++) {
            answers[what] = x.person(p, what);
        }
        return answers;
    }

    private void personAnswers() {
        due.sentence("person: 0 its PERSON (of a MARK that is JOINED the NAME), 1 .. 5 of that PERSON");
        SittingDesk x = new SittingDesk();
        x.click(10080, 23, 0);
        x.click(20160, 11, 0);
        x.click(0, 11, 1);
        x.click(0, 11, 0);
        x.strike(3, true);
        due.are("a mark: what", person(x, 23), 23, 1, 1, 0, 1, 1);
        due.are("a name: what", person(x, 11), 11, 3, 2, 0, 2, 2);
        x.join(23, 11);
        due.are("a joined mark: what", person(x, 23), 11, 4, 3, 0, 3, 1);
        due.are("its name: what", person(x, 11), 11, 4, 3, 0, 3, 1);
        x.rule(3, 1);
        x.rule(4, 10000);
        due.are("not quick: what", person(x, 23), 11, 4, 3, 0, 3, 1);
        x.strike(3, false);
        due.are("quick: what", person(x, 23), 11, 4, 0, 1, 0, Due.NONE);
    }

    private void personOfNobody() {
        due.sentence("person: of a WHO without CLICKS. UNKNOWN, OUTSIDE.");
        SittingDesk x = new SittingDesk();
        due.are("first name: what", person(x, 0), 0, 0, 0, 0, 0, Due.NONE);
        due.are("last mark: what", person(x, 23), 23, 0, 0, 0, 0, Due.NONE);
        due.is("who -1", x.person(-1, 0), Due.UNKNOWN);
        due.is("who 24", x.person(24, 0), Due.UNKNOWN);
        due.is("what -1", x.person(0, -1), Due.OUTSIDE);
        due.is("what 6", x.person(0, 6), Due.OUTSIDE);
    }

    private void rowAnswers() {
        due.sentence("row: The i-th CLICK in the ROW of the PERSON of WHO p; NONE. UNKNOWN.");
        SittingDesk x = new SittingDesk();
        due.is("empty", x.row(0, 0), Due.NONE);
        x.click(5, 0, 0);
        x.click(4, 0, 0);
        due.is("below", x.row(0, -1), Due.NONE);
        due.is("first", x.row(0, 0), 1);
        due.is("last", x.row(0, 1), 0);
        due.is("behind", x.row(0, 2), Due.NONE);
        due.is("far below", x.row(0, Integer.MIN_VALUE), Due.NONE);
        due.is("far behind", x.row(0, Integer.MAX_VALUE), Due.NONE);
        due.is("room for clicks", x.row(0, 119), Due.NONE);
        due.is("above it", x.row(0, 120), Due.NONE);
        due.is("who -1", x.row(-1, 0), Due.UNKNOWN);
        due.is("who 24", x.row(24, 0), Due.UNKNOWN);
        due.is("who 24, place -1", x.row(24, -1), Due.UNKNOWN);
        x.strike(1, true);
        due.is("one less", x.row(0, 1), Due.NONE);
        x.click(5, 0, 0);
        x.rule(3, 1);
        due.is("quick", x.row(0, 0), Due.NONE);
    }

    private void lastCall() {
        due.sentence("An object is used for at most 512 calls after it has been made");
        SittingDesk x = new SittingDesk();
        for (int call = 1; call < 511; call++) {
            x.click(call, 3, 0);
        }
        due.is("the 511th call", x.click(0, 0, 0), Due.FULL);
        due.is("the 512th call", x.row(3, 119), 119);
    }
}
