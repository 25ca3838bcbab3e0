import java.math.BigInteger;

/** "Terms", part 4, and promises 17 to 19: each sentence that names an edge. */
public final class WeekEdgesTest {
    private final Due due = new Due("WeekEdgesTest");

    public static void main(String[] args) {
        WeekEdgesTest test = new WeekEdgesTest();
        test.edgesOfAllWeeks();
        test.birthByTheFirstInTheRow();
        test.noBirth();
        test.sortOfBirths();
        test.cameByAnyClickOfTheRow();
        test.bornWeeks();
        test.bornAll();
        test.cameBounds();
        test.cameBehind();
        test.cameBeyondTheLastWeek();
        test.cameOnlyThoseBorn();
        test.digestOfNothing();
        test.digestOfOne();
        test.digestLeavesOut();
        test.digestWraps();
        test.due.end();
    }

    private void edgesOfAllWeeks() {
        due.sentence("WEEKS: TIME / 10080 (0 .. 19)");
        SittingDesk x = new SittingDesk();
        for (int week = 0; week < 20; week++) {
            int last = Math.min(10080 * week + 10079, 200000);
            x.click(10080 * week, 0, week % 8);
            x.click(last, 1, week % 8);
        }
        for (int week = 0; week < 20; week++) {
            x.rule(5, week % 8);
            due.is("first minute of week " + week, x.person(0, 5), week);
            due.is("last minute of week " + week, x.person(1, 5), week);
            due.is("born in week " + week, x.born(week), 2);
            x.strike(2 * week, true);
            x.strike(2 * week + 1, true);
        }
    }

    private void birthByTheFirstInTheRow() {
        due.sentence("the WEEK of the first CLICK in its ROW that is of the SORT of BIRTHS (0 at first)");
        SittingDesk x = new SittingDesk();
        Desks.clicks(x, 0, 30240, 0, 20160, 0, 10080, 1);
        due.is("the first in the row, not the first told", x.person(0, 5), 2);
        x.click(20159, 13, 0);
        due.is("another one's", x.person(0, 5), 2);
        x.join(13, 0);
        due.is("now its own", x.person(0, 5), 1);
        x.strike(3, true);
        due.is("struck", x.person(0, 5), 2);
        x.strike(1, true);
        due.is("both struck", x.person(0, 5), 3);
    }

    private void noBirth() {
        due.sentence("NONE: there is none");
        SittingDesk x = new SittingDesk();
        due.is("no clicks", x.person(0, 5), Due.NONE);
        x.click(0, 0, 1);
        due.is("no click of the sort", x.person(0, 5), Due.NONE);
        x.click(0, 0, 0);
        due.is("one", x.person(0, 5), 0);
        x.strike(1, true);
        due.is("struck", x.person(0, 5), Due.NONE);
        x.strike(1, false);
        x.rule(3, 1);
        due.is("quick", x.person(0, 5), Due.NONE);
        due.is("not born in week 0", x.born(0), 0);
        due.is("did not come", x.came(0, 0), 0);
    }

    private void sortOfBirths() {
        due.sentence("the SORT of BIRTHS (0 at first)");
        SittingDesk x = new SittingDesk();
        Desks.clicks(x, 0, 0, 0, 191520, 7);
        due.is("0", x.person(0, 5), 0);
        due.is("what it was", x.rule(5, 7), 0);
        due.is("7", x.person(0, 5), 19);
        due.is("8", x.rule(5, 8), Due.OUTSIDE);
        due.is("-1", x.rule(5, -1), Due.OUTSIDE);
        due.is("still 7", x.person(0, 5), 19);
    }

    private void cameByAnyClickOfTheRow() {
        due.sentence("It CAME in a WEEK, if a CLICK of its ROW is in it.");
        SittingDesk x = new SittingDesk();
        Desks.clicks(x, 0, 0, 0, 20159, 5, 20160, 6);
        due.is("any sort", x.came(0, 1), 1);
        due.is("any sort", x.came(0, 2), 1);
        due.is("no click", x.came(0, 3), 0);
        x.strike(1, true);
        due.is("struck", x.came(0, 1), 0);
        x.click(10080, 12, 0);
        due.is("another one's", x.came(0, 1), 0);
        x.join(12, 0);
        due.is("now its own", x.came(0, 1), 1);
    }

    private void bornWeeks() {
        due.sentence("born: in a WEEK (0 .. 19). OUTSIDE.");
        SittingDesk x = new SittingDesk();
        due.is("-1", x.born(-1), Due.OUTSIDE);
        due.is("nobody in 0", x.born(0), 0);
        due.is("nobody in 19", x.born(19), 0);
        due.is("20", x.born(20), Due.OUTSIDE);
        x.click(0, 0, 0);
        x.click(200000, 23, 0);
        due.is("-1 is not where those without birth are", x.born(-1), Due.OUTSIDE);
        due.is("0", x.born(0), 1);
        due.is("1", x.born(1), 0);
        due.is("18", x.born(18), 0);
        due.is("19", x.born(19), 1);
        due.is("20", x.born(20), Due.OUTSIDE);
    }

    private void bornAll() {
        due.sentence("born: How many PERSONS (all of them)");
        SittingDesk x = new SittingDesk();
        for (int who = 0; who < 24; who++) {
            x.click(200000, who, 0);
        }
        due.is("24", x.born(19), 24);
        due.is("24 came", x.came(19, 0), 24);
        for (int mark = 12; mark < 24; mark++) {
            x.join(mark, 0);
        }
        due.is("12", x.born(19), 12);
        due.is("12 came", x.came(19, 0), 12);
    }

    private void cameBounds() {
        due.sentence("came: d (0 .. 19). OUTSIDE (both).");
        SittingDesk x = new SittingDesk();
        Desks.clicks(x, 0, 0, 0, 200000, 0);
        due.is("0, 0", x.came(0, 0), 1);
        due.is("0, 19", x.came(0, 19), 1);
        due.is("0, 18", x.came(0, 18), 0);
        due.is("0, 20", x.came(0, 20), Due.OUTSIDE);
        due.is("0, -1", x.came(0, -1), Due.OUTSIDE);
        due.is("19, 0", x.came(19, 0), 0);
        due.is("20, 0", x.came(20, 0), Due.OUTSIDE);
        due.is("-1, 0", x.came(-1, 0), Due.OUTSIDE);
        due.is("-1, 20", x.came(-1, 20), Due.OUTSIDE);
        due.is("20, -1", x.came(20, -1), Due.OUTSIDE);
    }

    private void cameBehind() {
        due.sentence("came: in the WEEK that is d behind it");
        SittingDesk x = new SittingDesk();
        Desks.clicks(x, 0, 0, 3, 50400, 0, 60480, 3, 80640, 3);
        due.is("its own week", x.came(5, 0), 1);
        due.is("one behind", x.came(5, 1), 1);
        due.is("two behind", x.came(5, 2), 0);
        due.is("three behind", x.came(5, 3), 1);
        due.is("five ahead is not five behind", x.came(5, 5), 0);
    }

    private void cameBeyondTheLastWeek() {
        due.sentence("came: in the WEEK that is d behind it (no such WEEK)");
        SittingDesk x = new SittingDesk();
        Desks.clicks(x, 0, 191520, 0, 200000, 0);
        Desks.clicks(x, 1, 10080, 0, 0, 1, 200000, 1);
        due.is("19, 0", x.came(19, 0), 1);
        due.is("19, 1", x.came(19, 1), 0);
        due.is("19, 19", x.came(19, 19), 0);
        due.is("1, 18", x.came(1, 18), 1);
        due.is("1, 19", x.came(1, 19), 0);
    }

    private void cameOnlyThoseBorn() {
        due.sentence("came: How many of them");
        SittingDesk x = new SittingDesk();
        Desks.clicks(x, 0, 0, 0, 10080, 1);
        Desks.clicks(x, 1, 0, 1, 10080, 0);
        Desks.clicks(x, 2, 0, 1, 10080, 1);
        Desks.clicks(x, 12, 0, 0);
        due.is("of two one", x.came(0, 1), 1);
        due.is("both", x.came(0, 0), 2);
        due.is("of one one", x.came(1, 0), 1);
        x.join(12, 1);
        due.is("of two two", x.came(0, 1), 2);
        due.is("nobody", x.came(1, 0), 0);
    }

    /** The digest of these numbers without any wrapping, cut to an int at the end alone. */
    private static BigInteger unwrapped(int nobodiesAhead, int nobodiesBehind, int... numbers) {
        BigInteger d = BigInteger.valueOf(7);
        BigInteger times = BigInteger.valueOf(31);
        for (int i = 0; i < nobodiesAhead; i++) {
            d = d.multiply(times).add(BigInteger.valueOf(-1));
        }
        for (int number : numbers) {
            d = d.multiply(times).add(BigInteger.valueOf(number));
        }
        for (int i = 0; i < nobodiesBehind; i++) {
            d = d.multiply(times).add(BigInteger.valueOf(-1));
        }
        return d;
    }

    private void digestOfNothing() {
        due.sentence("digest: d is 7; for each WHO that is a PERSON; then 31 d and its BIRTH");
        due.is("24 without clicks", new SittingDesk().digest(), unwrapped(24, 0).intValue());
        due.is("as it is told elsewhere", new SittingDesk().digest(), 704326023);
        SittingDesk x = new SittingDesk();
        for (int mark = 12; mark < 24; mark++) {
            x.join(mark, 11);
        }
        due.is("12 without clicks", x.digest(), unwrapped(12, 0).intValue());
    }

    private void digestOfOne() {
        due.sentence("digest: 31 d and the CLICK, then 31 d and its SITTING; by numbers");
        SittingDesk x = new SittingDesk();
        x.click(200000, 0, 0);
        due.is("first name", x.digest(), unwrapped(0, 23, 0, 0, 19).intValue());
        x.click(0, 23, 1);
        x.strike(0, true);
        due.is("last mark, no birth", x.digest(), unwrapped(23, 0, 1, 0, -1).intValue());
        x.click(31, 23, 0);
        due.is("two sittings", x.digest(), unwrapped(23, 0, 1, 0, 2, 1, 0).intValue());
        x.join(23, 0);
        due.is("now the first name's", x.digest(), unwrapped(0, 22, 1, 0, 2, 1, 0).intValue());
    }

    private void digestLeavesOut() {
        due.sentence("digest: for each CLICK of its ROW");
        SittingDesk x = Desks.ofTimes(5, 5, 9);
        due.is("all", x.digest(), unwrapped(0, 23, 0, 0, 1, 0, 2, 0, 0).intValue());
        x.strike(1, true);
        due.is("struck", x.digest(), unwrapped(0, 23, 0, 0, 2, 0, 0).intValue());
        x.rule(3, 1);
        x.rule(4, 5);
        due.is("quick", x.digest(), unwrapped(0, 23, -1).intValue());
        due.is("asked twice", x.digest(), unwrapped(0, 23, -1).intValue());
    }

    private void digestWraps() {
        due.sentence("digest: (wrapping)");
        SittingDesk x = new SittingDesk();
        int[] numbers = new int[241];
        int negative = 0;
        for (int c = 0; c < 120; c++) {
            x.click(c, 0, 0);
            numbers[2 * c] = c;
            int[] sofar = new int[2 * c + 3];
            System.arraycopy(numbers, 0, sofar, 0, 2 * c + 1);
            int got = x.digest();
            due.is("of " + (c + 1) + " clicks", got, unwrapped(0, 23, sofar).intValue());
            negative += got < 0 ? 1 : 0;
        }
        due.is("some are below 0", negative > 0 && negative < 120 ? 1 : 0, 1);
        boolean farOut = unwrapped(0, 23, numbers).bitLength() > 1000;
        due.is("far out of an int without wrapping", farOut ? 1 : 0, 1);
    }
}
