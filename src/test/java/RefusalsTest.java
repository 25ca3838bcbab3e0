import java.util.Arrays;

/** "Terms", first paragraph: each refusal alone, two at once for their order, and what it leaves. */
public final class RefusalsTest {
    private static final int LOW = Integer.MIN_VALUE, HIGH = Integer.MAX_VALUE;

    private final Due due = new Due("RefusalsTest");

    public static void main(String[] args) {
        RefusalsTest test = new RefusalsTest();
        test.numbersFromNoughtOn();
        test.portraitTellsDesksApart();
        test.unknownClick();
        test.unknownWho();
        test.unknownFunnel();
        test.unknownSittingOrWay();
        test.outsideOfClicks();
        test.outsideOfRules();
        test.outsideOfFunnels();
        test.outsideOfWeeks();
        test.outsideOfWhats();
        test.not();
        test.full();
        test.unknownAheadOfOutside();
        test.unknownAheadOfNot();
        test.unknownAheadOfFull();
        test.outsideAheadOfFull();
        test.manyRefusals();
        test.due.end();
    }

    /** The answer, and that the desk then looks as one that was never asked. */
    private void refused(String call, Desks.Maker maker, Desks.Ask ask, int want) {
        SittingDesk asked = maker.make();
        due.is(call, ask.of(asked), want);
        int[] untouched = Desks.portrait(maker.make());
        due.is(call + " changes nothing", Arrays.equals(Desks.portrait(asked), untouched) ? 1 : 0, 1);
    }

    private void unknown(String call, Desks.Ask ask) {
        refused(call, Desks::busy, ask, Due.UNKNOWN);
    }

    private void outside(String call, Desks.Ask ask) {
        refused(call, Desks::busy, ask, Due.OUTSIDE);
    }

    private void numbersFromNoughtOn() {
        due.sentence("what has a number has it from 0 on, as it comes");
        SittingDesk x = new SittingDesk();
        due.is("the first click", x.click(500, 3, 1), 0);
        x.click(500, 3, 8);
        due.is("a refused click took no number", x.click(100, 3, 0), 1);
        due.is("an earlier time comes later", x.click(0, 4, 0), 2);
        due.is("the first funnel", x.funnel(true, 5, -1), 0);
        x.funnel(true, -1, -1);
        due.is("a refused funnel took no number", x.funnel(true, 5, -1), 1);
        x.step(0, 0);
        due.is("the first place", x.told(1, 6), 0);
        due.is("the first sitting", x.told(1, 5), 0);
        due.is("the first way", x.way(0, 3, 0, 0), 1);
        due.is("the first week", x.person(3, 5), 0);
    }

    /** Else it would not tell that something has changed. */
    private void portraitTellsDesksApart() {
        due.sentence("What is refused changes nothing.");
        Desks.Ask[] changes = {
            x -> x.click(200000, 23, 7), x -> x.strike(0, true), x -> x.strike(3, false), x -> x.join(13, 11),
            x -> x.join(23, 0), x -> x.rule(0, 39), x -> x.rule(1, 0), x -> x.rule(2, -1), x -> x.rule(3, 0),
            x -> x.rule(4, 1), x -> x.rule(5, 0), x -> x.funnel(true, 0, 0), x -> x.step(0, 1),
            x -> x.step(2, 7)};
        for (int i = 0; i < changes.length; i++) {
            SittingDesk x = Desks.busy();
            changes[i].of(x);
            boolean same = Arrays.equals(Desks.portrait(x), Desks.portrait(Desks.busy()));
            due.is("change " + i + " is seen", same ? 1 : 0, 0);
        }
        boolean twins = Arrays.equals(Desks.portrait(Desks.full()), Desks.portrait(Desks.full()));
        due.is("twins look alike", twins ? 1 : 0, 1);
    }

    private void unknownClick() {
        due.sentence("UNKNOWN (a CLICK that there is not)");
        for (int c : new int[] {LOW, -1001, -2, -1, 9, 10, 119, 120, HIGH}) {
            unknown("strike(" + c + ", true)", x -> x.strike(c, true));
            unknown("strike(" + c + ", false)", x -> x.strike(c, false));
            unknown("told(" + c + ", 0)", x -> x.told(c, 0));
        }
        refused("told(0, 0), no clicks", SittingDesk::new, x -> x.told(0, 0), Due.UNKNOWN);
        refused("strike(0, true), no clicks", SittingDesk::new, x -> x.strike(0, true), Due.UNKNOWN);
        refused("told(120, 0), full", Desks::full, x -> x.told(120, 0), Due.UNKNOWN);
        refused("strike(120, true), full", Desks::full, x -> x.strike(120, true), Due.UNKNOWN);
        due.is("told(119, 0), full", Desks.full().told(119, 0), 35700);
        due.is("told(8, 1), busy: the last one", Desks.busy().told(8, 1), 13);
    }

    private void unknownWho() {
        due.sentence("UNKNOWN (a WHO that there is not)");
        for (int p : new int[] {LOW, -1001, -2, -1, 24, 25, HIGH}) {
            unknown("click(0, " + p + ", 0)", x -> x.click(0, p, 0));
            unknown("person(" + p + ", 0)", x -> x.person(p, 0));
            unknown("row(" + p + ", 0)", x -> x.row(p, 0));
            unknown("sitting(" + p + ", 0, 0)", x -> x.sitting(p, 0, 0));
            unknown("way(0, " + p + ", 0, 0)", x -> x.way(0, p, 0, 0));
            unknown("reach(0, " + p + ")", x -> x.reach(0, p));
            unknown("join(" + p + ", 0)", x -> x.join(p, 0));
            unknown("join(13, " + p + ")", x -> x.join(13, p));
            if (p != -1) {
                unknown("ways(0, " + p + ")", x -> x.ways(0, p));
            }
        }
        unknown("join(11, 0): the last name is no mark", x -> x.join(11, 0));
        unknown("join(0, 0): the first name is no mark", x -> x.join(0, 0));
        unknown("join(13, 12): the first mark is no name", x -> x.join(13, 12));
        unknown("join(13, 23): the last mark is no name", x -> x.join(13, 23));
        unknown("join(13, 13): a mark is not its own name", x -> x.join(13, 13));
        unknown("join(0, 13): the other way round", x -> x.join(0, 13));
    }

    private void unknownFunnel() {
        due.sentence("UNKNOWN (a FUNNEL that there is not)");
        for (int f : new int[] {LOW, -1001, -2, -1, 3, 4, 5, 6, HIGH}) {
            unknown("step(" + f + ", 0)", x -> x.step(f, 0));
            unknown("ways(" + f + ", 0)", x -> x.ways(f, 0));
            unknown("ways(" + f + ", -1)", x -> x.ways(f, -1));
            unknown("way(" + f + ", 0, 0, 0)", x -> x.way(f, 0, 0, 0));
            unknown("reach(" + f + ", 0)", x -> x.reach(f, 0));
            unknown("reached(" + f + ", 0)", x -> x.reached(f, 0));
        }
        refused("step(6, 0), full", Desks::full, x -> x.step(6, 0), Due.UNKNOWN);
        refused("ways(0, -1), no funnels", SittingDesk::new, x -> x.ways(0, -1), Due.UNKNOWN);
        due.is("step(5, 0), full: the last one", Desks.full().step(5, 0), 3);
        due.is("step(2, 0), busy: the last one", Desks.busy().step(2, 0), 1);
    }

    private void unknownSittingOrWay() {
        due.sentence("UNKNOWN (also: there is no such SITTING), (also: there is no such WAY)");
        due.is("name 2 has two sittings", Desks.busy().person(2, 4), 2);
        due.is("name 0 has one way", Desks.busy().ways(0, 0), 1);
        for (int i : new int[] {LOW, -1001, -2, -1, 2, 3, 120, HIGH}) {
            unknown("sitting(2, " + i + ", 0)", x -> x.sitting(2, i, 0));
            unknown("way(0, 0, " + i + ", 0)", x -> x.way(0, 0, i, 0));
        }
        unknown("way(0, 0, 1, 0)", x -> x.way(0, 0, 1, 0));
        unknown("sitting of a quick name", x -> x.sitting(1, 0, 0));
        unknown("sitting of a name without clicks", x -> x.sitting(11, 0, 0));
        unknown("way of a name without clicks", x -> x.way(0, 11, 0, 0));
        unknown("way through a funnel without steps", x -> x.way(2, 0, 0, 0));
    }

    private void outsideOfClicks() {
        due.sentence("OUTSIDE (another number out of its bounds): TIME, SORT");
        for (int time : new int[] {LOW, -2, -1, 200001, 200002, HIGH}) {
            outside("click(" + time + ", 0, 0)", x -> x.click(time, 0, 0));
        }
        for (int sort : new int[] {LOW, -2, -1, 8, 9, HIGH}) {
            outside("click(0, 0, " + sort + ")", x -> x.click(0, 0, sort));
        }
        outside("click(-1, 0, 8)", x -> x.click(-1, 0, 8));
    }

    private void outsideOfRules() {
        due.sentence("OUTSIDE (another number out of its bounds): rule");
        int[] least = {0, 0, -1, 0, 1, 0};
        int[] greatest = {10000, 1, 7, 100, 10000, 7};
        for (int w = 0; w < 6; w++) {
            int what = w;
            for (int v : new int[] {LOW, least[w] - 2, least[w] - 1, greatest[w] + 1, greatest[w] + 2, HIGH}) {
                outside("rule(" + what + ", " + v + ")", x -> x.rule(what, v));
            }
        }
        for (int what : new int[] {LOW, -2, -1, 6, 7, HIGH}) {
            outside("rule(" + what + ", 1)", x -> x.rule(what, 1));
            outside("rule(" + what + ", " + HIGH + ")", x -> x.rule(what, HIGH));
        }
    }

    private void outsideOfFunnels() {
        due.sentence("OUTSIDE (another number out of its bounds): WINDOW, BAR, SORT of a STEP, k");
        for (int window : new int[] {LOW, -2, -1, 100001, 100002, HIGH}) {
            outside("funnel(true, " + window + ", 0)", x -> x.funnel(true, window, 0));
            outside("funnel(false, " + window + ", -1)", x -> x.funnel(false, window, -1));
        }
        for (int bar : new int[] {LOW, -1001, -3, -2, 8, 9, HIGH}) {
            outside("funnel(true, 0, " + bar + ")", x -> x.funnel(true, 0, bar));
            outside("funnel(false, 100000, " + bar + ")", x -> x.funnel(false, 100000, bar));
        }
        for (int sort : new int[] {LOW, -2, -1, 8, 9, HIGH}) {
            outside("step(0, " + sort + ")", x -> x.step(0, sort));
            outside("step(2, " + sort + "), the first one", x -> x.step(2, sort));
        }
        for (int k : new int[] {LOW, -2, -1, 5, 6, HIGH}) {
            outside("reached(0, " + k + ")", x -> x.reached(0, k));
            outside("reached(2, " + k + "), no steps", x -> x.reached(2, k));
        }
    }

    private void outsideOfWeeks() {
        due.sentence("OUTSIDE (another number out of its bounds): WEEK, d");
        for (int week : new int[] {LOW, -2, -1, 20, 21, HIGH}) {
            outside("born(" + week + ")", x -> x.born(week));
            outside("came(" + week + ", 0)", x -> x.came(week, 0));
            outside("came(" + week + ", 19)", x -> x.came(week, 19));
            outside("came(0, " + week + ")", x -> x.came(0, week));
            outside("came(19, " + week + ")", x -> x.came(19, week));
            outside("came(" + week + ", " + week + ")", x -> x.came(week, week));
        }
        outside("came(-1, 1): their sum is within", x -> x.came(-1, 1));
        outside("came(1, -1): their sum is within", x -> x.came(1, -1));
    }

    private void outsideOfWhats() {
        due.sentence("OUTSIDE (another number out of its bounds): what");
        for (int what : new int[] {LOW, -1002, -2, -1, 7, 8, HIGH}) {
            outside("told(0, " + what + ")", x -> x.told(0, what));
            outside("told of a struck click, " + what, x -> x.told(3, what));
            outside("person(0, " + what + ")", x -> x.person(0, what));
            outside("sitting(0, 0, " + what + ")", x -> x.sitting(0, 0, what));
            outside("count(" + what + ")", x -> x.count(what));
            outside("way(0, 0, 0, " + what + ")", x -> x.way(0, 0, 0, what));
        }
        outside("person(0, 6)", x -> x.person(0, 6));
        outside("person of a name without clicks, 6", x -> x.person(11, 6));
        outside("sitting(0, 0, 4)", x -> x.sitting(0, 0, 4));
        outside("way(0, 0, 0, 2)", x -> x.way(0, 0, 0, 2));
    }

    private void not() {
        due.sentence("NOT (not now, as told): it is JOINED");
        refused("join(12, 0): as it is", Desks::busy, x -> x.join(12, 0), Due.NOT);
        refused("join(12, 1): to another", Desks::busy, x -> x.join(12, 1), Due.NOT);
        refused("join(12, 11): to another", Desks::busy, x -> x.join(12, 11), Due.NOT);
        refused("join(12, 0), full", Desks::full, x -> x.join(12, 0), Due.NOT);
        due.is("join(13, 0) is not refused", Desks.busy().join(13, 0), 1);
    }

    private void full() {
        due.sentence("FULL");
        refused("a click too many", Desks::full, x -> x.click(0, 0, 0), Due.FULL);
        refused("a click too many, of the last kind", Desks::full, x -> x.click(200000, 23, 7), Due.FULL);
        refused("a funnel too many", Desks::full, x -> x.funnel(true, 0, -1), Due.FULL);
        refused("a funnel too many, of the last kind", Desks::full, x -> x.funnel(false, 100000, 7), Due.FULL);
        refused("a step too many", Desks::busy, x -> x.step(1, 0), Due.FULL);
        refused("a step too many, of the last kind", Desks::busy, x -> x.step(1, 7), Due.FULL);
    }

    private void unknownAheadOfOutside() {
        due.sentence("of several the first in this order: UNKNOWN, OUTSIDE");
        unknown("click: WHO and TIME", x -> x.click(-1, 24, 0));
        unknown("click: WHO and TIME", x -> x.click(200001, -1, 0));
        unknown("click: WHO and SORT", x -> x.click(0, 24, 8));
        unknown("click: WHO and both", x -> x.click(-1, -1, -1));
        unknown("told", x -> x.told(9, 7));
        unknown("told", x -> x.told(-1, -1));
        unknown("person", x -> x.person(24, 6));
        unknown("person", x -> x.person(-1, -1));
        unknown("sitting: WHO and what", x -> x.sitting(24, 0, 4));
        unknown("sitting: SITTING and what", x -> x.sitting(2, 2, 4));
        unknown("sitting: SITTING and what", x -> x.sitting(2, -1, -1));
        unknown("step", x -> x.step(3, 8));
        unknown("step", x -> x.step(-1, -1));
        unknown("way: FUNNEL and what", x -> x.way(3, 0, 0, 2));
        unknown("way: WHO and what", x -> x.way(0, 24, 0, 2));
        unknown("way: WAY and what", x -> x.way(0, 0, 1, 2));
        unknown("way: WAY and what", x -> x.way(0, 0, -1, -1));
        unknown("way: no steps and what", x -> x.way(2, 0, 0, 2));
        unknown("reached", x -> x.reached(3, 5));
        unknown("reached", x -> x.reached(-1, -1));
    }

    private void unknownAheadOfNot() {
        due.sentence("of several the first in this order: UNKNOWN, NOT");
        unknown("a joined mark and no name", x -> x.join(12, 12));
        unknown("a joined mark and no name", x -> x.join(12, -1));
        unknown("a joined mark and no name", x -> x.join(12, 24));
    }

    private void unknownAheadOfFull() {
        due.sentence("of several the first in this order: UNKNOWN, FULL");
        refused("click: WHO", Desks::full, x -> x.click(0, 24, 0), Due.UNKNOWN);
        refused("click: WHO", Desks::full, x -> x.click(0, -1, 0), Due.UNKNOWN);
        refused("click: WHO and the others", Desks::full, x -> x.click(-1, 24, 8), Due.UNKNOWN);
        refused("step", Desks::full, x -> x.step(6, 0), Due.UNKNOWN);
    }

    private void outsideAheadOfFull() {
        due.sentence("of several the first in this order: OUTSIDE, FULL");
        refused("click: TIME", Desks::full, x -> x.click(-1, 0, 0), Due.OUTSIDE);
        refused("click: TIME", Desks::full, x -> x.click(200001, 0, 0), Due.OUTSIDE);
        refused("click: SORT", Desks::full, x -> x.click(0, 0, -1), Due.OUTSIDE);
        refused("click: SORT", Desks::full, x -> x.click(0, 0, 8), Due.OUTSIDE);
        refused("funnel: WINDOW", Desks::full, x -> x.funnel(true, -1, 0), Due.OUTSIDE);
        refused("funnel: WINDOW", Desks::full, x -> x.funnel(true, 100001, 0), Due.OUTSIDE);
        refused("funnel: BAR", Desks::full, x -> x.funnel(true, 0, -2), Due.OUTSIDE);
        refused("funnel: BAR", Desks::full, x -> x.funnel(true, 0, 8), Due.OUTSIDE);
        refused("step: SORT", Desks::busy, x -> x.step(1, -1), Due.OUTSIDE);
        refused("step: SORT", Desks::busy, x -> x.step(1, 8), Due.OUTSIDE);
    }

    private void manyRefusals() {
        due.sentence("What is refused changes nothing. (many times)");
        SittingDesk x = Desks.full();
        for (int i = 0; i < 3; i++) {
            x.click(0, 0, 0);
            x.click(-1, 0, 0);
            x.funnel(true, 0, 0);
            x.step(1, 0);
            x.join(12, 3);
            x.rule(0, -1);
            x.strike(120, true);
        }
        boolean same = Arrays.equals(Desks.portrait(x), Desks.portrait(Desks.full()));
        due.is("a full desk stays as it is", same ? 1 : 0, 1);
    }
}
