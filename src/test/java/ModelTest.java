import java.util.ArrayList;
import java.util.List;

/** Long runs of calls, told again by a slow desk that follows the document's words one by one. */
public final class ModelTest {
    private static final int NONE = -1;
    private static final int RUNS = 12000;
    private static final int GONE = Desk.GONE;
    // The look at the end takes some 230 calls, and a step three at most.
    private static final int MOST_AHEAD = Desk.MOST_CALLS - 240;
    private long seed;

    private ModelTest(long seed) {
        this.seed = seed;
    }

    public static void main(String[] args) {
        Due due = new Due();
        for (int run = 0; run < RUNS; run++) {
            new ModelTest(run * 7919L + 17).follow(due, run);
        }
        due.end("ModelTest");
    }

    private int below(int bound) {
        seed = seed * 6364136223846793005L + 1442695040888963407L;
        return (int) ((seed >>> 33) % bound);
    }

    private int oneOf(int... values) {
        return values[below(values.length)];
    }

    private void follow(Due due, int run) {
        Desk desk = new Desk();
        Slow slow = new Slow();
        int wanted = below(11);
        int versions = 2 + below(4);
        for (int p = 0; p < wanted; p++) {
            int v = below(versions);
            due.is("run " + run + " part(" + v + ")", desk.part(v), slow.part(v));
        }
        int end = desk.calls() + below(MOST_AHEAD - desk.calls());
        while (desk.calls() < end) {
            step(due, "run " + run + " call " + desk.calls() + " ", desk, slow, versions);
        }
        look(due, "run " + run + " behind call " + desk.calls() + " ", desk, slow);
    }

    private int anyPart(Slow slow) {
        int n = slow.home.size();
        return n == 0 || below(40) == 0 ? oneOf(-1, n, 10, 31, 32, 33, Integer.MIN_VALUE) : below(n);
    }

    private int anyVersion(int versions) {
        return below(60) == 0 ? oneOf(-1, 1000, 1001, 0) : below(versions);
    }

    private int anyWorth() {
        return below(60) == 0 ? oneOf(-1, 0, 1000, 1001) : 1 + below(4);
    }

    private int anySet(Slow slow) {
        return below(40) == 0 ? oneOf(-1, 1 << slow.home.size(), Integer.MIN_VALUE, 1024)
            : below(1 << slow.home.size());
    }

    private void step(Due due, String at, Desk desk, Slow slow, int versions) {
        int p = anyPart(slow);
        int v = anyVersion(versions);
        int w = anyWorth();
        int set = anySet(slow);
        boolean flag = below(2) == 0;
        String told = "(" + p + ", " + v + ", " + w + ") set " + set + " " + flag;
        switch (below(30)) {
            case 0: due.is(at + "part" + told, desk.part(v), slow.part(v)); break;
            case 1: case 2: case 3: case 4: case 5: case 6: case 7:
                due.is(at + "offer" + told, desk.offer(p, v, w), slow.offer(p, v, w)); break;
            case 8: due.is(at + "withdraw" + told, desk.withdraw(p), slow.withdraw(p)); break;
            case 9: case 10: case 11: {
                int o = anyPart(slow);
                int lo = anyVersion(versions);
                int hi = anyVersion(versions);
                due.is(at + "need" + told + o + " " + lo + " " + hi,
                    desk.need(p, v, o, lo, hi), slow.need(p, v, o, lo, hi));
                break;
            }
            case 12:
                if (below(3) == 0) {
                    due.is(at + "test" + told, desk.test(set), slow.test(set));
                }
                break;
            case 13: case 14: case 15: due.is(at + "cut", desk.cut(), slow.cut()); break;
            case 16: case 17: case 18: due.is(at + "fix" + told, desk.fix(p, v, w), slow.fix(p, v, w)); break;
            case 19: case 20: due.is(at + "leave" + told, desk.leave(p, v, w), slow.leave(p, v, w)); break;
            case 21: case 22: case 23: due.is(at + "send", desk.send(), slow.send()); break;
            case 24: due.is(at + "giveUp", desk.giveUp(), slow.giveUp()); break;
            case 25: due.is(at + "oneWay" + told, desk.oneWay(p, v, flag), slow.oneWay(p, v, flag)); break;
            case 26: due.is(at + "back", desk.back(), slow.back()); break;
            case 27: due.is(at + "fits" + told, desk.fits(set), slow.fits(set)); break;
            default:
                due.is(at + "blame" + told, desk.blame(set), slow.blame(set));
                due.is(at + "runs" + told, desk.runs(set), slow.runs(set));
                due.is(at + "red" + told, desk.red(set), slow.red(set));
        }
    }

    private static void look(Due due, String at, Desk desk, Slow slow) {
        for (int p = -1; p <= 10; p++) {
            for (int what = -1; what <= 5; what++) {
                due.is(at + "told(" + p + ", " + what + ")", desk.told(p, what), slow.told(p, what));
            }
            due.is(at + "why(" + p + ")", desk.why(p), slow.why(p));
            due.is(at + "order(" + p + ")", desk.order(p), slow.order(p));
            for (int t = slow.trains.size() - 2; t <= slow.trains.size(); t++) {
                due.is(at + "was(" + t + ", " + p + ")", desk.was(t, p, false), slow.was(t, p, false));
                due.is(at + "was(" + t + ", " + p + ")", desk.was(t, p, true), slow.was(t, p, true));
                due.is(at + "brought(" + t + ")", desk.brought(t), slow.brought(t));
            }
        }
        for (int what = -1; what <= 9; what++) {
            due.is(at + "count(" + what + ")", desk.count(what), slow.count(what));
        }
        due.is(at + "chosen", desk.chosen(), slow.chosen == null ? NONE : bits(slow.chosen));
        due.is(at + "worth", desk.worth(), slow.chosen == null ? NONE : slow.worthOf(slow.chosen));
    }

    private static int bits(List<Integer> parts) {
        int bits = 0;
        for (int p : parts) {
            bits |= 1 << p;
        }
        return bits;
    }

    /** Sets are rising lists here, versions a whole row a set, and every search tries all there is. */
    private static final class Slow {
        final List<Integer> home = new ArrayList<>();
        final List<int[]> offers = new ArrayList<>();
        final List<int[]> kept = new ArrayList<>();
        final List<int[]> needs = new ArrayList<>();
        final List<List<Integer>> tests = new ArrayList<>();
        final List<int[]> oneWays = new ArrayList<>();
        final List<List<List<Integer>>> trains = new ArrayList<>();
        final List<Integer> out = new ArrayList<>();
        List<Integer> chosen;

        boolean known(int p) {
            return p >= 0 && p < home.size();
        }

        boolean version(int v) {
            return 0 <= v && v <= 1000;
        }

        boolean worth(int w) {
            return 1 <= w && w <= 1000;
        }

        List<Integer> parts(int set) {
            List<Integer> parts = new ArrayList<>();
            for (int p = 0; p < 32; p++) {
                if ((set >>> p & 1) != 0) {
                    if (!known(p)) {
                        return null;
                    }
                    parts.add(p);
                }
            }
            return parts;
        }

        int part(int v) {
            if (chosen != null || home.size() == 10 || !version(v)) {
                return NONE;
            }
            home.add(v);
            offers.add(null);
            kept.add(null);
            return home.size() - 1;
        }

        boolean offer(int p, int v, int w) {
            if (!known(p) || !version(v) || !worth(w)) {
                return false;
            }
            if (chosen == null) {
                if (home.get(p) == v) {
                    return false;
                }
                offers.set(p, new int[] {v, w});
                return true;
            }
            int then = chosen.contains(p) ? offers.get(p)[0] : home.get(p);
            if (then == v) {
                return false;
            }
            kept.set(p, new int[] {v, w});
            return true;
        }

        boolean withdraw(int p) {
            List<int[]> row = chosen == null ? offers : kept;
            if (!known(p) || row.get(p) == null) {
                return false;
            }
            row.set(p, null);
            return true;
        }

        int need(int p, int v, int o, int lo, int hi) {
            boolean sound = known(p) && known(o) && p != o && version(v) && version(lo) && version(hi) && lo <= hi;
            if (!sound || chosen != null || needs.size() == 30) {
                return NONE;
            }
            needs.add(new int[] {p, v, o, lo, hi});
            return needs.size() - 1;
        }

        int test(int set) {
            List<Integer> parts = parts(set);
            if (parts == null || parts.isEmpty() || chosen != null || tests.size() == 12) {
                return NONE;
            }
            tests.add(parts);
            return tests.size() - 1;
        }

        List<Integer> versions(List<Integer> set) {
            List<Integer> row = new ArrayList<>(home);
            for (int p : set) {
                row.set(p, offers.get(p)[0]);
            }
            return row;
        }

        int broken(List<Integer> row) {
            for (int i = 0; i < needs.size(); i++) {
                int[] n = needs.get(i);
                if (row.get(n[0]) == n[1] && (row.get(n[2]) < n[3] || row.get(n[2]) > n[4])) {
                    return i;
                }
            }
            return NONE;
        }

        boolean allOffered(List<Integer> set) {
            for (int p : set) {
                if (offers.get(p) == null) {
                    return false;
                }
            }
            return true;
        }

        int fits(int set) {
            List<Integer> parts = parts(set);
            if (parts == null || !allOffered(parts)) {
                return NONE;
            }
            return broken(versions(parts)) == NONE ? 1 : 0;
        }

        int firstRed(List<Integer> set) {
            for (int i = 0; i < tests.size(); i++) {
                if (set.containsAll(tests.get(i))) {
                    return i;
                }
            }
            return NONE;
        }

        int red(int set) {
            List<Integer> parts = parts(set);
            return parts == null ? NONE : firstRed(parts);
        }

        boolean goes(List<Integer> set) {
            return allOffered(set) && broken(versions(set)) == NONE && firstRed(set) == NONE;
        }

        int worthOf(List<Integer> set) {
            int sum = 0;
            for (int p : set) {
                sum += offers.get(p)[1];
            }
            return sum;
        }

        boolean betterThan(List<Integer> a, List<Integer> b) {
            if (b == null || worthOf(a) != worthOf(b)) {
                return b == null || worthOf(a) > worthOf(b);
            }
            for (int p = 0; p < home.size(); p++) {
                if (a.contains(p) != b.contains(p)) {
                    return a.contains(p);
                }
            }
            return false;
        }

        /** Of the sets that go, have `must` (where it is a part) and, besides, parts of `may` alone. */
        List<Integer> best(List<Integer> may, int must) {
            List<Integer> best = null;
            for (int set = 0; set < 1 << home.size(); set++) {
                List<Integer> parts = parts(set);
                boolean right = must == NONE || parts.contains(must);
                for (int p : parts) {
                    right &= p == must || may.contains(p);
                }
                if (right && goes(parts) && betterThan(parts, best)) {
                    best = parts;
                }
            }
            return best;
        }

        int cut() {
            if (chosen != null) {
                return NONE;
            }
            chosen = best(parts((1 << home.size()) - 1), NONE);
            return chosen == null ? NONE : bits(chosen);
        }

        List<Integer> and(List<Integer> set, int p) {
            return parts(bits(set) | 1 << p);
        }

        int why(int p) {
            if (chosen == null || !known(p) || offers.get(p) == null || chosen.contains(p)) {
                return NONE;
            }
            int broken = broken(versions(and(chosen, p)));
            int red = firstRed(and(chosen, p));
            return broken != NONE ? 100 + broken : red != NONE ? 200 + red : 0;
        }

        boolean fixable(int p, int v, int w) {
            return chosen != null && known(p) && version(v) && worth(w) && !chosen.contains(p) && home.get(p) != v;
        }

        int fix(int p, int v, int w) {
            if (!fixable(p, v, w)) {
                return NONE;
            }
            int[] old = offers.set(p, new int[] {v, w});
            if (goes(and(chosen, p))) {
                chosen = and(chosen, p);
                return 1;
            }
            offers.set(p, old);
            return 0;
        }

        int leave(int p, int v, int w) {
            if (!fixable(p, v, w)) {
                return NONE;
            }
            int[] old = offers.set(p, new int[] {v, w});
            List<Integer> best = best(chosen, p);
            offers.set(p, old);
            return best == null ? NONE : bits(chosen) & ~bits(best);
        }

        /** All beginnings in their order by numbers, those that do not fit left aside. */
        boolean ordered(List<Integer> beginning) {
            if (broken(versions(beginning)) != NONE) {
                return false;
            }
            if (beginning.size() == chosen.size()) {
                return true;
            }
            for (int p : chosen) {
                if (!beginning.contains(p)) {
                    beginning.add(p);
                    if (ordered(beginning)) {
                        return true;
                    }
                    beginning.remove(beginning.size() - 1);
                }
            }
            return false;
        }

        int order(int i) {
            List<Integer> order = new ArrayList<>();
            if (chosen == null || !ordered(order) || i < 0 || i >= order.size()) {
                return NONE;
            }
            return order.get(i);
        }

        int send() {
            if (chosen == null || !ordered(new ArrayList<>()) || trains.size() == 60) {
                return NONE;
            }
            List<Integer> ahead = new ArrayList<>(home);
            for (int p : chosen) {
                home.set(p, offers.get(p)[0]);
                offers.set(p, null);
            }
            trains.add(List.of(ahead, new ArrayList<>(home), chosen));
            out.add(trains.size() - 1);
            release();
            return trains.size() - 1;
        }

        void release() {
            chosen = null;
            for (int p = 0; p < home.size(); p++) {
                int[] next = kept.set(p, null);
                if (next != null && next[0] != home.get(p)) {
                    offers.set(p, next);
                }
            }
        }

        boolean giveUp() {
            if (chosen == null) {
                return false;
            }
            release();
            return true;
        }

        int[] way(int p, int v) {
            for (int[] way : oneWays) {
                if (way[0] == p && way[1] == v) {
                    return way;
                }
            }
            return null;
        }

        boolean oneWay(int p, int v, boolean is) {
            if (!known(p) || !version(v) || (way(p, v) != null) == is) {
                return false;
            }
            if (is) {
                return oneWays.size() < 60 && oneWays.add(new int[] {p, v});
            }
            return oneWays.remove(way(p, v));
        }

        int back() {
            if (chosen != null || out.isEmpty()) {
                return NONE;
            }
            int last = out.get(out.size() - 1);
            List<Integer> earlier = new ArrayList<>(home);
            for (int p : trains.get(last).get(2)) {
                if (way(p, home.get(p)) != null) {
                    return NONE;
                }
                earlier.set(p, trains.get(last).get(0).get(p));
            }
            if (broken(earlier) != NONE) {
                return NONE;
            }
            for (int p : trains.get(last).get(2)) {
                home.set(p, earlier.get(p));
                if (offers.get(p) != null && offers.get(p)[0] == home.get(p)) {
                    offers.set(p, null);
                }
            }
            out.remove(out.size() - 1);
            return last;
        }

        /** x and the runs, or null. */
        int[] hunt(int set) {
            List<Integer> x = parts(set);
            if (x == null) {
                return null;
            }
            int runs = 1;
            if (firstRed(x) == NONE) {
                return new int[] {0, runs};
            }
            int n = 2;
            anew:
            while (x.size() > 1) {
                int from = 0;
                for (int i = 0; i < n; i++) {
                    int to = from + x.size() / n + (i < x.size() % n ? 1 : 0);
                    List<Integer> without = new ArrayList<>(x.subList(0, from));
                    without.addAll(x.subList(to, x.size()));
                    runs++;
                    if (firstRed(without) != NONE) {
                        x = without;
                        n = n > 2 ? n - 1 : 2;
                        continue anew;
                    }
                    from = to;
                }
                if (n >= x.size()) {
                    break;
                }
                n = Math.min(n * 2, x.size());
            }
            return new int[] {bits(x), runs};
        }

        int blame(int set) {
            return hunt(set) == null ? NONE : hunt(set)[0];
        }

        int runs(int set) {
            return hunt(set) == null ? NONE : hunt(set)[1];
        }

        int told(int p, int what) {
            if (!known(p) || what < 0 || what > 4) {
                return NONE;
            }
            if (what == 0) {
                return home.get(p);
            }
            int[] offer = what < 3 ? offers.get(p) : kept.get(p);
            return offer == null ? NONE : offer[(what - 1) % 2];
        }

        int was(int t, int p, boolean behind) {
            if (t < 0 || t >= trains.size() || p < 0 || p >= trains.get(t).get(0).size()) {
                return GONE;
            }
            return trains.get(t).get(behind ? 1 : 0).get(p);
        }

        int brought(int t) {
            return t < 0 || t >= trains.size() ? NONE : bits(trains.get(t).get(2));
        }

        int count(int what) {
            int open = 0;
            for (int[] offer : offers) {
                open += offer == null ? 0 : 1;
            }
            int[] counts = {home.size(), needs.size(), tests.size(), trains.size(), out.size(), open,
                oneWays.size(), chosen == null ? 0 : 1, broken(home) == NONE ? 1 : 0};
            return what < 0 || what >= counts.length ? NONE : counts[what];
        }
    }
}
