import java.util.ArrayList;
import java.util.Arrays;
import java.util.List;

/**
 * Every call with every choice of edge values for its numbers, on an empty, a busy and a full
 * desk, against PlainDesk; behind a call that may change something, what is then seen, too.
 */
public final class EdgeSweepTest {
    private static final int LOW = Integer.MIN_VALUE, HIGH = Integer.MAX_VALUE;
    private static final int QUESTIONS_A_DESK = 300;

    private static final int[] BITS = {0, 1};
    private static final int[] TIMES = {LOW, -1, 0, 1, 199999, 200000, 200001, HIGH};
    private static final int[] WHOS = {LOW, -2, -1, 0, 11, 12, 23, 24, HIGH};
    private static final int[] SORTS = {LOW, -2, -1, 0, 7, 8, HIGH};
    private static final int[] CLICKS = {LOW, -2, -1, 0, 9, 10, 119, 120, HIGH};
    private static final int[] WHATS = {LOW, -1, 0, 1, 2, 3, 4, 5, 6, 7, HIGH};
    private static final int[] VALUES = {LOW, -2, -1, 0, 1, 2, 7, 8, 100, 101, 9999, 10000, 10001, HIGH};
    private static final int[] PLACES = {LOW, -2, -1, 0, 1, 2, 3, 119, 120, HIGH};
    private static final int[] FUNNELS = {LOW, -2, -1, 0, 1, 2, 3, 5, 6, HIGH};
    private static final int[] WINDOWS = {LOW, -1, 0, 1, 99999, 100000, 100001, HIGH};
    private static final int[] REACHES = {LOW, -1, 0, 1, 2, 3, 4, 5, HIGH};
    private static final int[] WEEKS = {LOW, -1, 0, 1, 18, 19, 20, HIGH};

    private final Due due;
    private final List<int[]> script;
    private final String desk;

    private EdgeSweepTest(Due due, String desk, List<int[]> script) {
        this.due = due;
        this.desk = desk;
        this.script = script;
    }

    public static void main(String[] args) {
        Due due = new Due("EdgeSweepTest");
        new EdgeSweepTest(due, "empty", List.of()).sweepAll();
        new EdgeSweepTest(due, "busy", busy()).sweepAll();
        new EdgeSweepTest(due, "full", full()).sweepAll();
        due.end();
    }

    private static List<int[]> busy() {
        List<int[]> calls = new ArrayList<>();
        int[][] clicks = {{200000, 0, 0}, {0, 0, 7}, {10, 12, 0}, {0, 12, 3}, {50, 11, 0}, {50, 11, 7},
            {20160, 23, 0}, {10079, 23, 7}, {1439, 12, 7}, {1440, 0, 1}};
        for (int[] c : clicks) {
            calls.add(new int[] {Calls.CLICK, c[0], c[1], c[2]});
        }
        calls.add(new int[] {Calls.STRIKE, 3, 1});
        calls.add(new int[] {Calls.JOIN, 12, 0});
        int[] rules = {1439, 1, 7, 1, 1, 0};
        for (int what = 0; what < rules.length; what++) {
            calls.add(new int[] {Calls.RULE, what, rules[what]});
        }
        addFunnel(calls, 0, 1, 1439, -1, 0, 7);
        addFunnel(calls, 1, 0, 0, 0, 7);
        addFunnel(calls, 2, 0, 100000, 7, 7, 7, 0, 1);
        return calls;
    }

    private static List<int[]> full() {
        List<int[]> calls = busy();
        for (int c = 10; c < 120; c++) {
            calls.add(new int[] {Calls.CLICK, 1818 * (119 - c), c % 24, c % 8});
        }
        addFunnel(calls, 3, 1, 100000, -1);
        addFunnel(calls, 4, 1, 1, -1, 0, 1, 2, 3);
        addFunnel(calls, 5, 0, 99999, 4, 0, 1, 2, 3);
        return calls;
    }

    private static void addFunnel(List<int[]> calls, int f, int ordered, int window, int bar, int... steps) {
        calls.add(new int[] {Calls.FUNNEL, ordered, window, bar});
        for (int sort : steps) {
            calls.add(new int[] {Calls.STEP, f, sort});
        }
    }

    private void sweepAll() {
        sweep(Calls.CLICK, TIMES, WHOS, SORTS);
        sweep(Calls.STRIKE, CLICKS, BITS);
        sweep(Calls.JOIN, WHOS, WHOS);
        sweep(Calls.RULE, WHATS, VALUES);
        sweep(Calls.FUNNEL, BITS, WINDOWS, SORTS);
        sweep(Calls.STEP, FUNNELS, SORTS);
        sweep(Calls.TOLD, CLICKS, WHATS);
        sweep(Calls.PERSON, WHOS, WHATS);
        sweep(Calls.ROW, WHOS, PLACES);
        sweep(Calls.SITTING, WHOS, PLACES, WHATS);
        sweep(Calls.COUNT, WHATS);
        sweep(Calls.WAYS, FUNNELS, WHOS);
        sweep(Calls.WAY, FUNNELS, WHOS, PLACES, WHATS);
        sweep(Calls.REACH, FUNNELS, WHOS);
        sweep(Calls.REACHED, FUNNELS, REACHES);
        sweep(Calls.BORN, WEEKS);
        sweep(Calls.CAME, WEEKS, WEEKS);
        sweep(Calls.DIGEST);
    }

    /** All choices of one value from each list. */
    private void sweep(int call, int[]... values) {
        int choices = 1;
        for (int[] of : values) {
            choices *= of.length;
        }
        Pair pair = new Pair();
        for (int choice = 0; choice < choices; choice++) {
            int[] numbers = new int[values.length];
            int rest = choice;
            for (int i = 0; i < values.length; i++) {
                numbers[i] = values[i][rest % values[i].length];
                rest /= values[i].length;
            }
            if (Calls.changes(call) || choice % QUESTIONS_A_DESK == QUESTIONS_A_DESK - 1) {
                pair = new Pair();
            }
            pair.same("", call, numbers);
            if (Calls.changes(call)) {
                pair.looksTheSame(" behind " + Calls.NAMES[call] + Arrays.toString(numbers));
            }
        }
    }

    /** The desk and the plain one after the script. */
    private final class Pair {
        private final SittingDesk mine = new SittingDesk();
        private final PlainDesk plain = new PlainDesk();

        Pair() {
            for (int[] line : script) {
                int[] numbers = Arrays.copyOfRange(line, 1, line.length);
                due.is(desk + " desk's script", Calls.on(mine, line[0], numbers) < -1 ? 1 : 0, 0);
                Calls.on(plain, line[0], numbers);
            }
        }

        void same(String when, int call, int... numbers) {
            String told = Calls.NAMES[call] + Arrays.toString(numbers) + when + " on the " + desk + " desk";
            due.is(told, Calls.on(mine, call, numbers), Calls.on(plain, call, numbers));
        }

        void looksTheSame(String when) {
            same(when, Calls.DIGEST);
            for (int what = 0; what < 7; what++) {
                same(when, Calls.COUNT, what);
                same(when, Calls.TOLD, 3, what);
                same(when, Calls.TOLD, 10, what);
            }
            for (int p : new int[] {0, 11, 12, 23}) {
                same(when, Calls.PERSON, p, 1);
                same(when, Calls.PERSON, p, 5);
                same(when, Calls.WAYS, 0, p);
                same(when, Calls.REACH, 2, p);
            }
        }
    }
}
