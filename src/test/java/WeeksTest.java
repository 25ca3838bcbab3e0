/** Promises 17 to 19: births, who came again, and the digest. */
public final class WeeksTest {
    private static final int WEEK = 10080;

    public static void main(String[] args) {
        Due due = new Due("WeeksTest");
        born(due);
        came(due);
        digest(due);
        due.end();
    }

    private static void born(Due due) {
        SittingDesk x = new SittingDesk();
        due.is("nobody", x.born(0), 0);
        x.click(WEEK - 1, 0, 0);
        x.click(WEEK, 1, 0);
        x.click(WEEK, 12, 0);
        x.click(0, 12, 1);
        x.click(200000, 2, 0);
        due.is("week 0", x.born(0), 1);
        due.is("week 1", x.born(1), 2);
        due.is("week 19", x.born(19), 1);
        due.is("week -1", x.born(-1), Due.OUTSIDE);
        due.is("week 20", x.born(20), Due.OUTSIDE);
        due.is("far out", x.born(Integer.MIN_VALUE), Due.OUTSIDE);
        x.click(0, 2, 0);
        due.is("a late click brings the birth forward", x.born(0), 2);
        due.is("and away", x.born(19), 0);
        x.join(12, 1);
        due.is("two become one person", x.born(1), 1);
        x.rule(5, 1);
        due.is("another sort", x.born(0), 1);
        due.is("another sort", x.born(1), 0);
        due.is("no birth", x.person(2, 5), Due.NONE);
        x.strike(3, true);
        due.is("struck", x.born(0), 0);
    }

    private static void came(Due due) {
        SittingDesk x = new SittingDesk();
        x.click(2 * WEEK, 0, 0);
        x.click(5 * WEEK - 1, 0, 1);
        x.click(WEEK, 0, 1);
        x.click(2 * WEEK, 3, 0);
        x.click(200000, 3, 2);
        x.click(4 * WEEK, 4, 1);
        due.is("its own week", x.came(2, 0), 2);
        due.is("nobody one behind", x.came(2, 1), 0);
        due.is("two behind", x.came(2, 2), 1);
        due.is("17 behind", x.came(2, 17), 1);
        due.is("no such week", x.came(2, 18), 0);
        due.is("no such week", x.came(19, 19), 0);
        due.is("ahead of the birth is not behind", x.came(1, 0), 0);
        due.is("without birth", x.came(4, 0), 0);
        due.is("week below", x.came(-1, 0), Due.OUTSIDE);
        due.is("week above", x.came(20, 0), Due.OUTSIDE);
        due.is("d below", x.came(0, -1), Due.OUTSIDE);
        due.is("d above", x.came(0, 20), Due.OUTSIDE);
        due.is("far out", x.came(Integer.MAX_VALUE, Integer.MAX_VALUE), Due.OUTSIDE);
        x.rule(5, 1);
        due.is("another sort of births", x.came(1, 3), 1);
        x.strike(0, true);
        due.is("a struck click did not come", x.came(1, 1), 0);
    }

    private static void digest(Due due) {
        SittingDesk x = new SittingDesk();
        due.is("empty", x.digest(), fold(24));
        x.click(WEEK, 1, 0);
        x.click(100, 1, 2);
        due.is("two sittings, birth in week 1", x.digest(), fold(22, -1, 1, 0, 0, 1, 1));
        x.click(7, 12, 0);
        due.is("a mark is a person", x.digest(), fold(11, -1, 1, 0, 0, 1, 1, -1, -1, -1, -1, -1, -1,
            -1, -1, -1, -1, 2, 0, 0));
        x.join(12, 0);
        due.is("joined", x.digest(), fold(21, 2, 0, 0, 1, 0, 0, 1, 1));
        x.join(23, 0);
        due.is("a joined mark has no place in it", x.digest(), fold(20, 2, 0, 0, 1, 0, 0, 1, 1));
        x.click(20, 0, 1);
        due.is("two in one sitting", x.digest(), fold(20, 2, 0, 3, 0, 0, 1, 0, 0, 1, 1));
        x.strike(3, true);
        x.strike(2, true);
        due.is("struck", x.digest(), fold(20, -1, 1, 0, 0, 1, 1));
        x.rule(3, 1);
        x.rule(4, WEEK - 100);
        due.is("not quick", x.digest(), fold(20, -1, 1, 0, 0, 1, 1));
        x.rule(4, WEEK - 99);
        due.is("quick", x.digest(), fold(20, -1, -1));
    }

    /** The digest of these numbers, with so many persons without clicks behind them. */
    private static int fold(int nobodies, int... numbers) {
        int d = 7;
        for (int n : numbers) {
            d = 31 * d + n;
        }
        for (int i = 0; i < nobodies; i++) {
            d = 31 * d - 1;
        }
        return d;
    }
}
