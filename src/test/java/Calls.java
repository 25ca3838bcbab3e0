/** The calls of the face by their numbers, on either desk; a boolean is 1 or 0. */
final class Calls {
    static final int CLICK = 0, STRIKE = 1, JOIN = 2, RULE = 3, FUNNEL = 4, STEP = 5;
    static final int TOLD = 6, PERSON = 7, ROW = 8, SITTING = 9, COUNT = 10, WAYS = 11, WAY = 12;
    static final int REACH = 13, REACHED = 14, BORN = 15, CAME = 16, DIGEST = 17;
    static final String[] NAMES = {"click", "strike", "join", "rule", "funnel", "step", "told", "person", "row",
        "sitting", "count", "ways", "way", "reach", "reached", "born", "came", "digest"};

    private Calls() {
    }

    static boolean changes(int call) {
        return call <= STEP;
    }

    static int on(SittingDesk x, int call, int... a) {
        switch (call) {
            case CLICK: return x.click(a[0], a[1], a[2]);
            case STRIKE: return x.strike(a[0], a[1] == 1);
            case JOIN: return x.join(a[0], a[1]);
            case RULE: return x.rule(a[0], a[1]);
            case FUNNEL: return x.funnel(a[0] == 1, a[1], a[2]);
            case STEP: return x.step(a[0], a[1]);
            case TOLD: return x.told(a[0], a[1]);
            case PERSON: return x.person(a[0], a[1]);
            case ROW: return x.row(a[0], a[1]);
            case SITTING: return x.sitting(a[0], a[1], a[2]);
            case COUNT: return x.count(a[0]);
            case WAYS: return x.ways(a[0], a[1]);
            case WAY: return x.way(a[0], a[1], a[2], a[3]);
            case REACH: return x.reach(a[0], a[1]);
            case REACHED: return x.reached(a[0], a[1]);
            case BORN: return x.born(a[0]);
            case CAME: return x.came(a[0], a[1]);
            default: return x.digest();
        }
    }

    static int on(PlainDesk x, int call, int... a) {
        switch (call) {
            case CLICK: return x.click(a[0], a[1], a[2]);
            case STRIKE: return x.strike(a[0], a[1] == 1);
            case JOIN: return x.join(a[0], a[1]);
            case RULE: return x.rule(a[0], a[1]);
            case FUNNEL: return x.funnel(a[0] == 1, a[1], a[2]);
            case STEP: return x.step(a[0], a[1]);
            case TOLD: return x.told(a[0], a[1]);
            case PERSON: return x.person(a[0], a[1]);
            case ROW: return x.row(a[0], a[1]);
            case SITTING: return x.sitting(a[0], a[1], a[2]);
            case COUNT: return x.count(a[0]);
            case WAYS: return x.ways(a[0], a[1]);
            case WAY: return x.way(a[0], a[1], a[2], a[3]);
            case REACH: return x.reach(a[0], a[1]);
            case REACHED: return x.reached(a[0], a[1]);
            case BORN: return x.born(a[0]);
            case CAME: return x.came(a[0], a[1]);
            default: return x.digest();
        }
    }
}
