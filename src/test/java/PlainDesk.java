import java.util.ArrayList;
import java.util.Comparator;
import java.util.List;

/** The document's words taken one by one, without any short cut, to hold SittingDesk against. */
final class PlainDesk {
    static final int NONE = -1, UNKNOWN = -1001, OUTSIDE = -1002, NOT = -1003, FULL = -1004;

    record Funnel(boolean ordered, int window, int bar, List<Integer> steps) { }

    record Way(int first, int last) { }

    private final List<int[]> clicks = new ArrayList<>();
    private final List<Boolean> struck = new ArrayList<>();
    private final int[] joinedTo = new int[24];
    private final List<Funnel> funnels = new ArrayList<>();
    private int gap = 30;
    private int turns = 0;
    private int ending = NONE;
    private int rate = 0;
    private int span = 1;
    private int births = 0;

    PlainDesk() {
        java.util.Arrays.fill(joinedTo, NONE);
    }

    // ---- the terms

    private static boolean within(int n, int least, int greatest) {
        return least <= n && n <= greatest;
    }

    private int time(int c) {
        return clicks.get(c)[0];
    }

    private int sort(int c) {
        return clicks.get(c)[2];
    }

    private int personOfWho(int who) {
        return joinedTo[who] == NONE ? who : joinedTo[who];
    }

    private List<Integer> persons() {
        List<Integer> persons = new ArrayList<>();
        for (int who = 0; who < 24; who++) {
            if (joinedTo[who] == NONE) {
                persons.add(who);
            }
        }
        return persons;
    }

    private List<Integer> clicksOf(int person) {
        List<Integer> its = new ArrayList<>();
        for (int c = 0; c < clicks.size(); c++) {
            if (personOfWho(clicks.get(c)[1]) == person) {
                its.add(c);
            }
        }
        return its;
    }

    /** Whether some click is the earliest of more than RATE that lie within less than SPAN. */
    private boolean isQuick(int person) {
        for (int least : clicksOf(person)) {
            int many = 0;
            for (int c : clicksOf(person)) {
                if (!struck.get(c) && time(c) >= time(least) && time(c) - time(least) < span) {
                    many++;
                }
            }
            if (!struck.get(least) && rate != 0 && many > rate) {
                return true;
            }
        }
        return false;
    }

    private boolean counts(int c) {
        return !struck.get(c) && !isQuick(personOfWho(clicks.get(c)[1]));
    }

    private List<Integer> rowOf(int person) {
        List<Integer> row = new ArrayList<>();
        if (!isQuick(person)) {
            for (int c : clicksOf(person)) {
                if (!struck.get(c)) {
                    row.add(c);
                }
            }
        }
        row.sort(Comparator.<Integer>comparingInt(this::time).thenComparingInt(c -> c));
        return row;
    }

    private List<List<Integer>> sittingsOf(int person) {
        List<List<Integer>> sittings = new ArrayList<>();
        int ahead = NONE;
        for (int c : rowOf(person)) {
            boolean cut = ahead == NONE
                || time(ahead) < time(c) - gap
                || turns == 1 && time(ahead) / 1440 != time(c) / 1440
                || ending != NONE && sort(ahead) == ending;
            if (cut) {
                sittings.add(new ArrayList<>());
            }
            sittings.get(sittings.size() - 1).add(c);
            ahead = c;
        }
        return sittings;
    }

    private int sittingOf(int c) {
        List<List<Integer>> sittings = sittingsOf(personOfWho(clicks.get(c)[1]));
        for (int i = 0; i < sittings.size(); i++) {
            if (sittings.get(i).contains(c)) {
                return i;
            }
        }
        return NONE;
    }

    private int birthOf(int person) {
        for (int c : rowOf(person)) {
            if (sort(c) == births) {
                return time(c) / 10080;
            }
        }
        return NONE;
    }

    private boolean cameIn(int person, int week) {
        for (int c : rowOf(person)) {
            if (time(c) / 10080 == week) {
                return true;
            }
        }
        return false;
    }

    // ---- all ways there are, as places in the row

    private List<Way> allWays(Funnel f, List<Integer> row, int k) {
        List<Way> found = new ArrayList<>();
        if (k > 0) {
            gather(f, row, new int[k], 0, found);
        }
        return found;
    }

    private void gather(Funnel f, List<Integer> row, int[] places, int done, List<Way> found) {
        if (done == places.length) {
            addIfWay(f, row, places, found);
            return;
        }
        for (int place = 0; place < row.size(); place++) {
            boolean another = true;
            for (int i = 0; i < done; i++) {
                another &= places[i] != place;
            }
            boolean behind = !f.ordered || done == 0 || places[done - 1] < place;
            if (another && behind && sort(row.get(place)) == f.steps.get(done)) {
                places[done] = place;
                gather(f, row, places, done + 1, found);
            }
        }
    }

    private void addIfWay(Funnel f, List<Integer> row, int[] places, List<Way> found) {
        int first = Integer.MAX_VALUE;
        int last = Integer.MIN_VALUE;
        for (int place : places) {
            first = Math.min(first, place);
            last = Math.max(last, place);
        }
        if (time(row.get(last)) - time(row.get(first)) > f.window) {
            return;
        }
        for (int place = first + 1; place < last; place++) {
            boolean one = false;
            for (int taken : places) {
                one |= taken == place;
            }
            if (!one && f.bar != NONE && sort(row.get(place)) == f.bar) {
                return;
            }
        }
        found.add(new Way(first, last));
    }

    private List<Way> toldWays(Funnel f, List<Integer> row) {
        List<Way> left = allWays(f, row, f.steps.size());
        left.sort(Comparator.comparingInt(Way::first).thenComparingInt(Way::last));
        List<Way> told = new ArrayList<>();
        while (!left.isEmpty()) {
            Way next = left.get(0);
            told.add(next);
            left.removeIf(w -> !(time(row.get(w.first)) > time(row.get(next.first)) + f.window));
        }
        return told;
    }

    private int reachOf(Funnel f, int person) {
        int greatest = 0;
        for (int k = 1; k <= f.steps.size(); k++) {
            if (!allWays(f, rowOf(person), k).isEmpty()) {
                greatest = k;
            }
        }
        return greatest;
    }

    // ---- the calls

    int click(int time, int who, int sort) {
        if (!within(who, 0, 23)) {
            return UNKNOWN;
        }
        if (!within(time, 0, 200000) || !within(sort, 0, 7)) {
            return OUTSIDE;
        }
        if (clicks.size() == 120) {
            return FULL;
        }
        clicks.add(new int[] {time, who, sort});
        struck.add(false);
        return clicks.size() - 1;
    }

    int strike(int c, boolean on) {
        if (!within(c, 0, clicks.size() - 1)) {
            return UNKNOWN;
        }
        return struck.set(c, on) ? 1 : 0;
    }

    int join(int mark, int name) {
        if (!within(mark, 12, 23) || !within(name, 0, 11)) {
            return UNKNOWN;
        }
        if (joinedTo[mark] != NONE) {
            return NOT;
        }
        int many = clicksOf(mark).size();
        joinedTo[mark] = name;
        return many;
    }

    int rule(int what, int v) {
        int was;
        if (what == 0 && within(v, 0, 10000)) {
            was = gap;
            gap = v;
        } else if (what == 1 && within(v, 0, 1)) {
            was = turns;
            turns = v;
        } else if (what == 2 && within(v, -1, 7)) {
            was = ending;
            ending = v;
        } else if (what == 3 && within(v, 0, 100)) {
            was = rate;
            rate = v;
        } else if (what == 4 && within(v, 1, 10000)) {
            was = span;
            span = v;
        } else if (what == 5 && within(v, 0, 7)) {
            was = births;
            births = v;
        } else {
            was = OUTSIDE;
        }
        return was;
    }

    int told(int c, int what) {
        if (!within(c, 0, clicks.size() - 1)) {
            return UNKNOWN;
        }
        if (!within(what, 0, 6)) {
            return OUTSIDE;
        }
        int person = personOfWho(clicks.get(c)[1]);
        return what < 3 ? clicks.get(c)[what]
            : what == 3 ? person
            : what == 4 ? (counts(c) ? 1 : 0)
            : what == 5 ? sittingOf(c)
            : rowOf(person).indexOf(c);
    }

    int person(int p, int what) {
        if (!within(p, 0, 23)) {
            return UNKNOWN;
        }
        if (!within(what, 0, 5)) {
            return OUTSIDE;
        }
        int person = personOfWho(p);
        return what == 0 ? person
            : what == 1 ? clicksOf(person).size()
            : what == 2 ? rowOf(person).size()
            : what == 3 ? (isQuick(person) ? 1 : 0)
            : what == 4 ? sittingsOf(person).size()
            : birthOf(person);
    }

    int row(int p, int i) {
        if (!within(p, 0, 23)) {
            return UNKNOWN;
        }
        List<Integer> row = rowOf(personOfWho(p));
        return within(i, 0, row.size() - 1) ? row.get(i) : NONE;
    }

    int sitting(int p, int i, int what) {
        if (!within(p, 0, 23) || !within(i, 0, sittingsOf(personOfWho(p)).size() - 1)) {
            return UNKNOWN;
        }
        if (!within(what, 0, 3)) {
            return OUTSIDE;
        }
        List<Integer> its = sittingsOf(personOfWho(p)).get(i);
        int first = its.get(0);
        int last = its.get(its.size() - 1);
        return what == 0 ? first : what == 1 ? last : what == 2 ? its.size() : time(last) - time(first);
    }

    int count(int what) {
        if (!within(what, 0, 6)) {
            return OUTSIDE;
        }
        int many = what == 0 ? clicks.size() : what == 5 ? 24 - persons().size() : what == 6 ? funnels.size() : 0;
        for (int c = 0; c < clicks.size(); c++) {
            many += what == 1 && counts(c) ? 1 : 0;
        }
        for (int p : persons()) {
            many += what == 2 ? sittingsOf(p).size() : 0;
            many += what == 3 && !rowOf(p).isEmpty() ? 1 : 0;
            many += what == 4 && isQuick(p) ? 1 : 0;
        }
        return many;
    }

    int funnel(boolean ordered, int window, int bar) {
        if (!within(window, 0, 100000) || !within(bar, -1, 7)) {
            return OUTSIDE;
        }
        if (funnels.size() == 6) {
            return FULL;
        }
        funnels.add(new Funnel(ordered, window, bar, new ArrayList<>()));
        return funnels.size() - 1;
    }

    private boolean isFunnel(int f) {
        return within(f, 0, funnels.size() - 1);
    }

    int step(int f, int sort) {
        if (!isFunnel(f)) {
            return UNKNOWN;
        }
        if (!within(sort, 0, 7)) {
            return OUTSIDE;
        }
        List<Integer> steps = funnels.get(f).steps;
        if (steps.size() == 4) {
            return FULL;
        }
        steps.add(sort);
        return steps.size();
    }

    int ways(int f, int p) {
        if (!isFunnel(f) || !within(p, -1, 23)) {
            return UNKNOWN;
        }
        int many = 0;
        for (int q : persons()) {
            if (p == NONE || personOfWho(p) == q) {
                many += toldWays(funnels.get(f), rowOf(q)).size();
            }
        }
        return many;
    }

    int way(int f, int p, int i, int what) {
        if (!isFunnel(f) || !within(p, 0, 23)) {
            return UNKNOWN;
        }
        List<Integer> row = rowOf(personOfWho(p));
        List<Way> told = toldWays(funnels.get(f), row);
        if (!within(i, 0, told.size() - 1)) {
            return UNKNOWN;
        }
        if (!within(what, 0, 1)) {
            return OUTSIDE;
        }
        return row.get(what == 0 ? told.get(i).first : told.get(i).last);
    }

    int reach(int f, int p) {
        if (!isFunnel(f) || !within(p, 0, 23)) {
            return UNKNOWN;
        }
        return reachOf(funnels.get(f), personOfWho(p));
    }

    int reached(int f, int k) {
        if (!isFunnel(f)) {
            return UNKNOWN;
        }
        if (!within(k, 0, 4)) {
            return OUTSIDE;
        }
        int many = 0;
        for (int p : persons()) {
            many += !rowOf(p).isEmpty() && reachOf(funnels.get(f), p) >= k ? 1 : 0;
        }
        return many;
    }

    int born(int week) {
        if (!within(week, 0, 19)) {
            return OUTSIDE;
        }
        int many = 0;
        for (int p : persons()) {
            many += birthOf(p) == week ? 1 : 0;
        }
        return many;
    }

    int came(int week, int d) {
        if (!within(week, 0, 19) || !within(d, 0, 19)) {
            return OUTSIDE;
        }
        int many = 0;
        for (int p : persons()) {
            many += birthOf(p) == week && cameIn(p, week + d) ? 1 : 0;
        }
        return many;
    }

    int digest() {
        int d = 7;
        for (int p : persons()) {
            for (int c : rowOf(p)) {
                d = 31 * d + c;
                d = 31 * d + sittingOf(c);
            }
            d = 31 * d + birthOf(p);
        }
        return d;
    }
}
