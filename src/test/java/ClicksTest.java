/** Promises 1 to 10: clicks, names and marks, rules, rows and sittings. */
public final class ClicksTest {
    private static final int LOW = Integer.MIN_VALUE, HIGH = Integer.MAX_VALUE;

    public static void main(String[] args) {
        Due due = new Due("ClicksTest");
        newObject(due);
        click(due);
        fullDesk(due);
        strike(due);
        join(due);
        rule(due);
        told(due);
        person(due);
        quick(due);
        quickEdges(due);
        row(due);
        sitting(due);
        cuts(due);
        count(due);
        due.end();
    }

    private static void newObject(Due due) {
        SittingDesk x = new SittingDesk();
        for (int what = 0; what <= 6; what++) {
            due.is("new: count(" + what + ")", x.count(what), 0);
        }
        for (int p = 0; p < 24; p++) {
            due.is("new: person(p, 0)", x.person(p, 0), p);
            due.is("new: person(p, 5)", x.person(p, 5), Due.NONE);
        }
        due.is("new: GAP", x.rule(0, 30), 30);
        due.is("new: TURNS", x.rule(1, 0), 0);
        due.is("new: ENDING SORT", x.rule(2, -1), Due.NONE);
        due.is("new: RATE", x.rule(3, 0), 0);
        due.is("new: SPAN", x.rule(4, 1), 1);
        due.is("new: SORT of BIRTHS", x.rule(5, 0), 0);
    }

    private static void click(Due due) {
        SittingDesk x = new SittingDesk();
        due.is("least click", x.click(0, 0, 0), 0);
        due.is("greatest click", x.click(200000, 23, 7), 1);
        due.is("time below", x.click(-1, 0, 0), Due.OUTSIDE);
        due.is("time above", x.click(200001, 0, 0), Due.OUTSIDE);
        due.is("sort below", x.click(0, 0, -1), Due.OUTSIDE);
        due.is("sort above", x.click(0, 0, 8), Due.OUTSIDE);
        due.is("who below", x.click(0, -1, 0), Due.UNKNOWN);
        due.is("who above", x.click(0, 24, 0), Due.UNKNOWN);
        due.is("UNKNOWN ahead of OUTSIDE", x.click(-1, 24, 8), Due.UNKNOWN);
        due.is("far out", x.click(HIGH, HIGH, HIGH), Due.UNKNOWN);
        due.is("far out", x.click(LOW, 0, LOW), Due.OUTSIDE);
        due.is("refused ones change nothing", x.count(0), 2);
        due.is("the next number", x.click(5, 0, 0), 2);
    }

    private static void fullDesk(Due due) {
        SittingDesk x = new SittingDesk();
        for (int c = 0; c < 120; c++) {
            due.is("click " + c, x.click(1000 - c, 5, c % 8), c);
        }
        due.is("one too many", x.click(0, 5, 0), Due.FULL);
        due.is("UNKNOWN ahead of FULL", x.click(0, 24, 0), Due.UNKNOWN);
        due.is("OUTSIDE ahead of FULL", x.click(0, 0, 8), Due.OUTSIDE);
        due.is("120 and no more", x.count(0), 120);
        due.is("first of the row", x.row(5, 0), 119);
        due.is("last of the row", x.row(5, 119), 0);
        due.is("behind the row", x.row(5, 120), Due.NONE);
        due.is("click 120", x.told(120, 0), Due.UNKNOWN);
        due.is("strike 120", x.strike(120, true), Due.UNKNOWN);
        due.is("RATE 100", x.rule(3, 100), 0);
        due.is("SPAN 100", x.rule(4, 100), 1);
        due.is("101 within 100 minutes", x.person(5, 3), 0);
        due.is("SPAN 101", x.rule(4, 101), 100);
        due.is("101 within 101 minutes", x.person(5, 3), 1);
    }

    private static void strike(Due due) {
        SittingDesk x = new SittingDesk();
        due.is("no click", x.strike(0, true), Due.UNKNOWN);
        x.click(10, 1, 0);
        x.click(20, 1, 0);
        due.is("below", x.strike(-1, true), Due.UNKNOWN);
        due.is("above", x.strike(2, false), Due.UNKNOWN);
        due.is("far out", x.strike(LOW, true), Due.UNKNOWN);
        due.is("off, was off", x.strike(0, false), 0);
        due.is("on, was off", x.strike(0, true), 0);
        due.is("row without it", x.row(1, 0), 1);
        due.is("on, was on", x.strike(0, true), 1);
        due.is("still the person's", x.person(1, 1), 2);
        due.is("does not count", x.person(1, 2), 1);
        due.is("off, was on", x.strike(0, false), 1);
        due.is("row with it", x.row(1, 0), 0);
        due.is("off again", x.strike(0, false), 0);
    }

    private static void join(Due due) {
        SittingDesk x = new SittingDesk();
        x.click(10, 12, 0);
        x.click(10, 23, 1);
        x.click(10, 11, 2);
        x.click(5, 23, 3);
        x.strike(3, true);
        due.is("a name is no mark", x.join(11, 0), Due.UNKNOWN);
        due.is("a mark is no name", x.join(12, 12), Due.UNKNOWN);
        due.is("mark above", x.join(24, 0), Due.UNKNOWN);
        due.is("mark below", x.join(-1, 0), Due.UNKNOWN);
        due.is("name below", x.join(12, -1), Due.UNKNOWN);
        due.is("far out", x.join(HIGH, LOW), Due.UNKNOWN);
        due.is("nothing joined", x.count(5), 0);
        due.is("struck ones, too", x.join(23, 11), 2);
        due.is("again", x.join(23, 11), Due.NOT);
        due.is("to another", x.join(23, 0), Due.NOT);
        due.is("UNKNOWN ahead of NOT", x.join(23, 12), Due.UNKNOWN);
        due.is("a second mark", x.join(12, 11), 1);
        due.is("of like times by numbers", x.row(11, 0), 0);
        due.is("of like times by numbers", x.row(11, 1), 1);
        due.is("of like times by numbers", x.row(11, 2), 2);
        due.is("a mark without clicks", x.join(13, 11), 0);
        due.is("a click to come", x.click(1, 13, 0), 4);
        due.is("is the name's", x.row(11, 0), 4);
        due.is("joined marks", x.count(5), 3);
    }

    private static void rule(Due due) {
        int[] least = {0, 0, -1, 0, 1, 0};
        int[] greatest = {10000, 1, 7, 100, 10000, 7};
        int[] first = {30, 0, -1, 0, 1, 0};
        for (int what = 0; what < 6; what++) {
            SittingDesk x = new SittingDesk();
            String of = "rule(" + what + ", ";
            due.is(of + "below)", x.rule(what, least[what] - 1), Due.OUTSIDE);
            due.is(of + "above)", x.rule(what, greatest[what] + 1), Due.OUTSIDE);
            due.is(of + "far below)", x.rule(what, LOW), Due.OUTSIDE);
            due.is(of + "far above)", x.rule(what, HIGH), Due.OUTSIDE);
            due.is(of + "least)", x.rule(what, least[what]), first[what]);
            due.is(of + "greatest)", x.rule(what, greatest[what]), least[what]);
            due.is(of + "first)", x.rule(what, first[what]), greatest[what]);
        }
        SittingDesk x = new SittingDesk();
        due.is("what below", x.rule(-1, 0), Due.OUTSIDE);
        due.is("what above", x.rule(6, 0), Due.OUTSIDE);
        due.is("what far out", x.rule(LOW, 0), Due.OUTSIDE);
    }

    private static void told(Due due) {
        SittingDesk x = new SittingDesk();
        x.click(300, 14, 6);
        x.click(100, 2, 5);
        x.click(100, 2, 4);
        x.join(14, 2);
        int[][] want = {{300, 14, 6, 2, 1, 1, 2}, {100, 2, 5, 2, 1, 0, 0}, {100, 2, 4, 2, 1, 0, 1}};
        for (int c = 0; c < 3; c++) {
            for (int what = 0; what < 7; what++) {
                due.is("told(" + c + ", " + what + ")", x.told(c, what), want[c][what]);
            }
        }
        due.is("what below", x.told(0, -1), Due.OUTSIDE);
        due.is("what above", x.told(0, 7), Due.OUTSIDE);
        due.is("click below", x.told(-1, 0), Due.UNKNOWN);
        due.is("UNKNOWN ahead of OUTSIDE", x.told(3, 7), Due.UNKNOWN);
        x.strike(1, true);
        due.is("struck: TIME", x.told(1, 0), 100);
        due.is("struck: PERSON", x.told(1, 3), 2);
        due.is("struck: counts", x.told(1, 4), 0);
        due.is("struck: sitting", x.told(1, 5), Due.NONE);
        due.is("struck: place", x.told(1, 6), Due.NONE);
        due.is("the next one moves up", x.told(2, 6), 0);
    }

    private static void person(Due due) {
        SittingDesk x = new SittingDesk();
        x.click(10, 15, 1);
        x.click(50, 3, 0);
        x.click(60, 3, 1);
        x.strike(2, true);
        int[] name = {3, 2, 1, 0, 1, 0};
        int[] mark = {15, 1, 1, 0, 1, Due.NONE};
        int[] both = {3, 3, 2, 0, 2, 0};
        int[] nobody = {16, 0, 0, 0, 0, Due.NONE};
        for (int what = 0; what < 6; what++) {
            due.is("name, " + what, x.person(3, what), name[what]);
            due.is("mark, " + what, x.person(15, what), mark[what]);
            due.is("nobody, " + what, x.person(16, what), nobody[what]);
        }
        x.join(15, 3);
        for (int what = 0; what < 6; what++) {
            due.is("joined mark, " + what, x.person(15, what), both[what]);
            due.is("its name, " + what, x.person(3, what), both[what]);
        }
        due.is("below", x.person(-1, 0), Due.UNKNOWN);
        due.is("UNKNOWN ahead of OUTSIDE", x.person(24, 6), Due.UNKNOWN);
        due.is("what below", x.person(0, -1), Due.OUTSIDE);
        due.is("what above", x.person(0, 6), Due.OUTSIDE);
    }

    private static void quick(Due due) {
        SittingDesk x = new SittingDesk();
        x.click(100, 0, 0);
        x.click(104, 0, 0);
        x.click(109, 12, 0);
        x.rule(3, 2);
        x.rule(4, 10);
        due.is("two clicks are not more than 2", x.person(0, 3), 0);
        x.join(12, 0);
        due.is("three are, with the mark's", x.person(0, 3), 1);
        due.is("none counts", x.person(0, 2), 0);
        due.is("all are its clicks", x.person(0, 1), 3);
        due.is("no sittings", x.person(0, 4), 0);
        due.is("no birth", x.person(0, 5), Due.NONE);
        due.is("no row", x.row(0, 0), Due.NONE);
        due.is("no sitting", x.sitting(0, 0, 0), Due.UNKNOWN);
        due.is("not counted", x.told(1, 4), 0);
        due.is("no sitting of it", x.told(1, 5), Due.NONE);
        due.is("no place of it", x.told(1, 6), Due.NONE);
        due.is("quick persons", x.count(4), 1);
        x.strike(1, true);
        due.is("struck ones are not seen", x.person(0, 3), 0);
        due.is("what is left counts", x.person(0, 2), 2);
        x.strike(1, false);
        due.is("quick again", x.person(12, 3), 1);
        x.rule(4, 9);
        due.is("differ by SPAN is not less", x.person(0, 3), 0);
    }

    private static void quickEdges(Due due) {
        SittingDesk x = new SittingDesk();
        x.click(7, 4, 0);
        x.click(7, 4, 0);
        due.is("RATE 0: nobody", x.person(4, 3), 0);
        x.rule(4, 10000);
        due.is("RATE 0, great SPAN: nobody", x.count(4), 0);
        x.rule(4, 1);
        x.rule(3, 1);
        due.is("like times differ by 0", x.person(4, 3), 1);
        x.click(500, 5, 0);
        x.click(501, 5, 0);
        due.is("1 is not less than SPAN 1", x.person(5, 3), 0);
        x.click(2, 5, 0);
        x.click(2, 5, 0);
        due.is("somewhere in the row is enough", x.person(5, 3), 1);
        x.rule(3, 0);
        due.is("nobody again", x.count(4), 0);
    }

    private static void row(Due due) {
        SittingDesk x = new SittingDesk();
        x.click(50, 9, 0);
        x.click(20, 9, 0);
        x.click(50, 9, 0);
        x.click(20, 8, 0);
        x.click(20, 9, 0);
        int[] want = {1, 4, 0, 2, Due.NONE};
        for (int i = 0; i < want.length; i++) {
            due.is("row(9, " + i + ")", x.row(9, i), want[i]);
        }
        due.is("place below", x.row(9, -1), Due.NONE);
        due.is("place far out", x.row(9, HIGH), Due.NONE);
        due.is("place far out", x.row(9, LOW), Due.NONE);
        due.is("who below", x.row(-1, 0), Due.UNKNOWN);
        due.is("who above", x.row(24, 0), Due.UNKNOWN);
        due.is("another one's", x.row(8, 0), 3);
    }

    private static void sitting(Due due) {
        SittingDesk x = new SittingDesk();
        x.click(100, 7, 0);
        x.click(10, 7, 0);
        x.click(40, 7, 0);
        x.click(12, 7, 0);
        int[][] want = {{1, 2, 3, 30}, {0, 0, 1, 0}};
        for (int i = 0; i < 2; i++) {
            for (int what = 0; what < 4; what++) {
                due.is("sitting(7, " + i + ", " + what + ")", x.sitting(7, i, what), want[i][what]);
            }
        }
        due.is("no such sitting", x.sitting(7, 2, 0), Due.UNKNOWN);
        due.is("sitting below", x.sitting(7, -1, 0), Due.UNKNOWN);
        due.is("who above", x.sitting(24, 0, 0), Due.UNKNOWN);
        due.is("UNKNOWN ahead of OUTSIDE", x.sitting(7, 2, 4), Due.UNKNOWN);
        due.is("what below", x.sitting(7, 0, -1), Due.OUTSIDE);
        due.is("what above", x.sitting(7, 1, 4), Due.OUTSIDE);
        x.strike(3, true);
        due.is("a struck one is no bridge", x.sitting(7, 0, 2), 2);
        x.join(20, 7);
        due.is("by the mark", x.sitting(20, 1, 0), 0);
        x.click(70, 20, 0);
        due.is("late click joins sittings", x.person(7, 4), 1);
        due.is("from first to last", x.sitting(20, 0, 3), 90);
    }

    private static void cuts(Due due) {
        SittingDesk x = new SittingDesk();
        x.click(1439, 6, 3);
        x.click(1440, 6, 3);
        x.click(1470, 6, 4);
        x.click(1470, 6, 3);
        x.click(1501, 6, 3);
        due.is("by GAP", x.person(6, 4), 2);
        x.rule(0, 31);
        due.is("GAP is not above GAP", x.person(6, 4), 1);
        x.rule(0, 0);
        due.is("GAP 0: like times stay", x.person(6, 4), 4);
        x.rule(0, 10000);
        x.rule(1, 1);
        due.is("by TURNS", x.person(6, 4), 2);
        due.is("the new day's", x.told(1, 5), 1);
        x.rule(1, 0);
        x.rule(2, 4);
        due.is("by ENDING", x.person(6, 4), 2);
        due.is("the ending one is within", x.told(2, 5), 0);
        due.is("the next one is behind", x.told(3, 5), 1);
        x.rule(2, 3);
        due.is("an ending at the end cuts nothing", x.person(6, 4), 4);
        x.rule(2, -1);
        due.is("no ENDING", x.person(6, 4), 1);
    }

    private static void count(Due due) {
        SittingDesk x = new SittingDesk();
        x.click(10, 0, 0);
        x.click(100, 0, 0);
        x.click(10, 12, 0);
        x.click(12, 13, 0);
        x.click(13, 13, 0);
        x.click(10, 1, 0);
        x.strike(5, true);
        x.join(12, 0);
        x.rule(3, 1);
        x.rule(4, 2);
        x.funnel(true, 0, -1);
        x.funnel(true, 0, -1);
        x.funnel(true, 0, -1);
        // Name 0 has two clicks at 10 and mark 13 two within a minute; name 1's one is struck.
        int[] quick = {6, 0, 0, 0, 2, 1, 3};
        int[] slow = {6, 5, 4, 2, 0, 1, 3};
        for (int what = 0; what < 7; what++) {
            due.is("quick: count(" + what + ")", x.count(what), quick[what]);
        }
        x.rule(3, 0);
        x.rule(0, 0);
        for (int what = 0; what < 7; what++) {
            due.is("slow: count(" + what + ")", x.count(what), slow[what]);
        }
        due.is("below", x.count(-1), Due.OUTSIDE);
        due.is("above", x.count(7), Due.OUTSIDE);
    }
}
