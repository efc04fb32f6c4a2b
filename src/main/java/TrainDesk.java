import java.util.ArrayList;
import java.util.Arrays;
import java.util.NoSuchElementException;

/** The desk of ../shared/DOC.md; sets of parts are bits, part 0 the lowest. */
public final class TrainDesk {
    public static final int NONE = -1;

    private static final int MOST_PARTS = 10;
    private static final int MOST_NEEDS = 30;
    private static final int MOST_TESTS = 12;
    private static final int MOST_TRAINS = 60;
    private static final int MOST_ONE_WAYS = 60;
    private static final int TOP_VERSION = 1000;
    private static final int TOP_WORTH = 1000;
    private static final int WHY_NEED = 100;
    private static final int WHY_TEST = 200;
    // Far above what blame can need: each step takes parts away or cuts finer.
    private static final int MOST_STEPS = 1000;

    private final int[] home;
    private final Offers offers;
    private final Offers kept;
    private final Needs needs;
    private final Tests tests;
    private final Route route;
    private final Hunt hunt;
    private final OneWays oneWays;
    private final ArrayList<Train> trains;
    private int parts;
    // NONE is no set, so it tells that no cut is at hand.
    private int chosen;

    public TrainDesk() {
        home = new int[MOST_PARTS];
        offers = new Offers();
        kept = new Offers();
        needs = new Needs();
        tests = new Tests();
        route = new Route();
        hunt = new Hunt();
        oneWays = new OneWays();
        trains = new ArrayList<>();
        parts = 0;
        chosen = NONE;
    }

    public int part(int version) {
        if (isCutAtHand() || parts >= MOST_PARTS || !isVersion(version)) {
            return NONE;
        }
        home[parts] = version;
        parts++;
        return parts - 1;
    }

    public boolean offer(int part, int version, int worth) {
        if (!isPart(part) || !isVersion(version) || !isWorth(worth) || version == homeToCome(part)) {
            return false;
        }
        openOffers().put(part, version, worth);
        return true;
    }

    public boolean withdraw(int part) {
        if (!isPart(part) || !openOffers().has(part)) {
            return false;
        }
        openOffers().drop(part);
        return true;
    }

    public int need(int part, int version, int other, int lo, int hi) {
        if (isCutAtHand() || !isPart(part) || !isPart(other) || part == other) {
            return NONE;
        }
        if (!isVersion(version) || !isVersion(lo) || !isVersion(hi) || lo > hi) {
            return NONE;
        }
        return needs.add(part, version, other, lo, hi);
    }

    public int test(int set) {
        if (isCutAtHand() || set == 0 || !areParts(set)) {
            return NONE;
        }
        return tests.add(set);
    }

    public int fits(int set) {
        if ((set & ~offers.mask()) != 0) {
            return NONE;
        }
        return firstBroken(set) == NONE ? 1 : 0;
    }

    public int red(int set) {
        return areParts(set) ? tests.firstRed(set) : NONE;
    }

    public int cut() {
        if (isCutAtHand()) {
            return NONE;
        }
        int best = greatest(offers.mask(), 0);
        if (best != NONE) {
            choose(best);
        }
        return best;
    }

    public int chosen() {
        return chosen;
    }

    public int worth() {
        return isCutAtHand() ? offers.sum(chosen) : NONE;
    }

    public int why(int part) {
        if (!isCutAtHand() || !isPart(part) || !offers.has(part) || isChosen(part)) {
            return NONE;
        }
        int set = chosen | 1 << part;
        int broken = firstBroken(set);
        if (broken != NONE) {
            return WHY_NEED + broken;
        }
        int red = tests.firstRed(set);
        return red != NONE ? WHY_TEST + red : 0;
    }

    public int fix(int part, int version, int worth) {
        if (!mayFix(part, version, worth)) {
            return NONE;
        }
        int oldVersion = offers.versionOf(part);
        int oldWorth = offers.worthOf(part);
        offers.put(part, version, worth);
        needs.weigh(home, offers);
        int set = chosen | 1 << part;
        if (goes(set)) {
            choose(set);
            return 1;
        }
        offers.put(part, oldVersion, oldWorth);
        return 0;
    }

    public int leave(int part, int version, int worth) {
        if (!mayFix(part, version, worth)) {
            return NONE;
        }
        int oldVersion = offers.versionOf(part);
        int oldWorth = offers.worthOf(part);
        offers.put(part, version, worth);
        int set = greatest(chosen | 1 << part, 1 << part);
        offers.put(part, oldVersion, oldWorth);
        return set == NONE ? NONE : chosen & ~set;
    }

    public int order(int i) {
        return isCutAtHand() ? route.partAt(i) : NONE;
    }

    public int send() {
        if (!isCutAtHand() || !route.isFound() || trains.size() >= MOST_TRAINS) {
            return NONE;
        }
        int[] ahead = Arrays.copyOf(home, parts);
        for (int p = 0; p < parts; p++) {
            if (isChosen(p)) {
                home[p] = offers.versionOf(p);
                offers.drop(p);
            }
        }
        trains.add(new Train(ahead, Arrays.copyOf(home, parts), chosen));
        endCut();
        return trains.size() - 1;
    }

    public boolean giveUp() {
        if (!isCutAtHand()) {
            return false;
        }
        endCut();
        return true;
    }

    public boolean oneWay(int part, int version, boolean is) {
        if (!isPart(part) || !isVersion(version)) {
            return false;
        }
        return is ? oneWays.add(part, version) : oneWays.remove(part, version);
    }

    public int back() {
        int last = latestOut();
        if (isCutAtHand() || last == NONE) {
            return NONE;
        }
        Train train = trains.get(last);
        if (isStuck(train.load)) {
            return NONE;
        }
        bringHome(train.ahead, train.load);
        if (firstBroken(0) != NONE) {
            bringHome(train.behind, train.load);
            return NONE;
        }
        train.isBack = true;
        dropOffersAtHome();
        return last;
    }

    public int blame(int set) {
        if (!areParts(set)) {
            return NONE;
        }
        hunt.follow(tests, set);
        return hunt.least;
    }

    public int runs(int set) {
        if (!areParts(set)) {
            return NONE;
        }
        hunt.follow(tests, set);
        return hunt.spent;
    }

    public int told(int part, int what) {
        if (!isPart(part)) {
            return NONE;
        }
        switch (what) {
            case 0: return home[part];
            case 1: return offers.versionOf(part);
            case 2: return offers.worthOf(part);
            case 3: return kept.versionOf(part);
            case 4: return kept.worthOf(part);
            default: return NONE;
        }
    }

    public int was(int train, int part, boolean behind) throws NoSuchElementException {
        if (!isTrain(train)) {
            throw new NoSuchElementException("no such train");
        }
        Train past = trains.get(train);
        int[] versions = behind ? past.behind : past.ahead;
        if (part < 0 || part >= versions.length) {
            throw new NoSuchElementException("the part was not there");
        }
        return versions[part];
    }

    public int brought(int train) {
        return isTrain(train) ? trains.get(train).load : NONE;
    }

    public int count(int what) {
        switch (what) {
            case 0: return parts;
            case 1: return needs.size;
            case 2: return tests.size;
            case 3: return trains.size();
            case 4: return trainsOut();
            case 5: return Integer.bitCount(offers.mask());
            case 6: return oneWays.size;
            case 7: return isCutAtHand() ? 1 : 0;
            case 8: return firstBroken(0) == NONE ? 1 : 0;
            default: return NONE;
        }
    }

    private static boolean isVersion(int version) {
        return version >= 0 && version <= TOP_VERSION;
    }

    private static boolean isWorth(int worth) {
        return worth >= 1 && worth <= TOP_WORTH;
    }

    private boolean isPart(int part) {
        return part >= 0 && part < parts;
    }

    private boolean areParts(int set) {
        return (set & ~((1 << parts) - 1)) == 0;
    }

    private boolean isTrain(int train) {
        return train >= 0 && train < trains.size();
    }

    private boolean isCutAtHand() {
        return chosen != NONE;
    }

    private boolean isChosen(int part) {
        return isCutAtHand() && (chosen >> part & 1) != 0;
    }

    private int homeToCome(int part) {
        return isChosen(part) ? offers.versionOf(part) : home[part];
    }

    private Offers openOffers() {
        return isCutAtHand() ? kept : offers;
    }

    private boolean mayFix(int part, int version, int worth) {
        return isCutAtHand() && isPart(part) && isVersion(version) && isWorth(worth)
            && !isChosen(part) && version != home[part];
    }

    private int firstBroken(int set) {
        needs.weigh(home, offers);
        return needs.firstBroken(set);
    }

    // The needs are weighed by the caller, once for all the sets that it asks for.
    private boolean goes(int set) {
        return needs.firstBroken(set) == NONE && tests.firstRed(set) == NONE;
    }

    private int greatest(int may, int must) {
        needs.weigh(home, offers);
        int best = NONE;
        int bestWorth = NONE;
        for (int set = may; set >= must; set--) {
            if ((set & ~may) == 0 && (set & must) == must) {
                int sum = offers.sum(set);
                boolean better = sum > bestWorth || sum == bestWorth && hasLowerPart(set, best);
                if (better && goes(set)) {
                    best = set;
                    bestWorth = sum;
                }
            }
        }
        return best;
    }

    private static boolean hasLowerPart(int set, int other) {
        return (set & Integer.lowestOneBit(set ^ other)) != 0;
    }

    // Nothing that the order rests on can change behind the cut but by a fix, so it is planned here once.
    private void choose(int set) {
        chosen = set;
        needs.weigh(home, offers);
        route.plan(needs, set);
    }

    private void endCut() {
        chosen = NONE;
        for (int p = 0; p < parts; p++) {
            if (kept.has(p) && kept.versionOf(p) != home[p]) {
                offers.put(p, kept.versionOf(p), kept.worthOf(p));
            }
            kept.drop(p);
        }
    }

    private int latestOut() {
        for (int t = trains.size() - 1; t >= 0; t--) {
            if (!trains.get(t).isBack) {
                return t;
            }
        }
        return NONE;
    }

    private int trainsOut() {
        int out = 0;
        for (int t = 0; t < trains.size(); t++) {
            if (!trains.get(t).isBack) {
                out++;
            }
        }
        return out;
    }

    private boolean isStuck(int set) {
        for (int p = 0; p < parts; p++) {
            if ((set >> p & 1) != 0 && oneWays.find(p, home[p]) != NONE) {
                return true;
            }
        }
        return false;
    }

    private void bringHome(int[] versions, int set) {
        for (int p = 0; p < versions.length && p < MOST_PARTS; p++) {
            if ((set >> p & 1) != 0) {
                home[p] = versions[p];
            }
        }
    }

    // No offer is ever of the version at home, so only what has just come home can meet one here.
    private void dropOffersAtHome() {
        for (int p = 0; p < parts; p++) {
            if (offers.versionOf(p) == home[p]) {
                offers.drop(p);
            }
        }
    }

    /** One offer a part at most; NONE in both rows where there is none. */
    private static final class Offers {
        private final int[] versions;
        private final int[] worths;

        Offers() {
            versions = new int[MOST_PARTS];
            worths = new int[MOST_PARTS];
            Arrays.fill(versions, NONE);
            Arrays.fill(worths, NONE);
        }

        boolean has(int p) {
            return versionOf(p) != NONE;
        }

        int versionOf(int p) {
            return p >= 0 && p < MOST_PARTS ? versions[p] : NONE;
        }

        int worthOf(int p) {
            return p >= 0 && p < MOST_PARTS ? worths[p] : NONE;
        }

        void put(int p, int version, int worth) {
            if (p >= 0 && p < MOST_PARTS) {
                versions[p] = version;
                worths[p] = worth;
            }
        }

        void drop(int p) {
            put(p, NONE, NONE);
        }

        int mask() {
            int mask = 0;
            for (int p = 0; p < MOST_PARTS; p++) {
                if (versions[p] != NONE) {
                    mask |= 1 << p;
                }
            }
            return mask;
        }

        int sum(int set) {
            int sum = 0;
            for (int p = 0; p < MOST_PARTS; p++) {
                if ((set >> p & 1) != 0) {
                    sum += worths[p];
                }
            }
            return sum;
        }
    }

    /**
     * A need asks of two parts alone whether they board, so with given offers the sets that break
     * need i are just those with (set & asked[i]) == breaks[i]. Weighing once makes the many sets
     * of a cut cheap to ask.
     */
    private static final class Needs {
        private final int[] part;
        private final int[] version;
        private final int[] other;
        private final int[] lo;
        private final int[] hi;
        private final int[] asked;
        private final int[] breaks;
        private int size;

        Needs() {
            part = new int[MOST_NEEDS];
            version = new int[MOST_NEEDS];
            other = new int[MOST_NEEDS];
            lo = new int[MOST_NEEDS];
            hi = new int[MOST_NEEDS];
            asked = new int[MOST_NEEDS];
            breaks = new int[MOST_NEEDS];
            size = 0;
        }

        int add(int p, int v, int o, int from, int to) {
            if (size >= MOST_NEEDS) {
                return NONE;
            }
            part[size] = p;
            version[size] = v;
            other[size] = o;
            lo[size] = from;
            hi[size] = to;
            size++;
            return size - 1;
        }

        void weigh(int[] home, Offers offers) {
            for (int i = 0; i < size; i++) {
                weighOne(i, home, offers);
            }
        }

        private void weighOne(int i, int[] home, Offers offers) {
            int p = part[i];
            int o = other[i];
            boolean homeNeeds = home[p] == version[i];
            boolean offerNeeds = offers.has(p) ? offers.versionOf(p) == version[i] : homeNeeds;
            boolean homeHolds = holds(i, home[o]);
            boolean offerHolds = offers.has(o) ? holds(i, offers.versionOf(o)) : homeHolds;
            if (!homeNeeds && !offerNeeds || homeHolds && offerHolds) {
                neverBreaks(i);
                return;
            }
            asked[i] = 0;
            breaks[i] = 0;
            if (homeNeeds != offerNeeds) {
                asked[i] |= 1 << p;
                breaks[i] |= offerNeeds ? 1 << p : 0;
            }
            if (homeHolds != offerHolds) {
                asked[i] |= 1 << o;
                breaks[i] |= homeHolds ? 1 << o : 0;
            }
        }

        private boolean holds(int i, int v) {
            return v >= lo[i] && v <= hi[i];
        }

        private void neverBreaks(int i) {
            asked[i] = 0;
            breaks[i] = 1;
        }

        int firstBroken(int set) {
            for (int i = 0; i < size; i++) {
                if ((set & asked[i]) == breaks[i]) {
                    return i;
                }
            }
            return NONE;
        }
    }

    private static final class Tests {
        private final int[] sets;
        private int size;

        Tests() {
            sets = new int[MOST_TESTS];
            size = 0;
        }

        int add(int set) {
            if (size >= MOST_TESTS) {
                return NONE;
            }
            sets[size] = set;
            size++;
            return size - 1;
        }

        int firstRed(int set) {
            for (int i = 0; i < size; i++) {
                if ((sets[i] & ~set) == 0) {
                    return i;
                }
            }
            return NONE;
        }
    }

    /**
     * Home and the chosen set both fit, so a need that breaks on the way can only ask that one part
     * boards ahead of another. Where no part is open such needs go round in a ring, and no other
     * beginning helps: the lowest open part is always right, and no step is ever taken back.
     */
    private static final class Route {
        private final int[] path;
        private int length;

        Route() {
            path = new int[MOST_PARTS];
            length = NONE;
        }

        boolean isFound() {
            return length != NONE;
        }

        int partAt(int i) {
            return i >= 0 && i < length && i < MOST_PARTS ? path[i] : NONE;
        }

        void plan(Needs needs, int goal) {
            int size = Integer.bitCount(goal);
            int set = needs.firstBroken(0) == NONE ? 0 : NONE;
            for (int i = 0; i < size && i < MOST_PARTS && set != NONE; i++) {
                path[i] = firstOpen(needs, goal, set);
                set = path[i] != NONE ? set | 1 << path[i] : NONE;
            }
            length = set != NONE ? size : NONE;
        }

        private static int firstOpen(Needs needs, int goal, int set) {
            for (int p = 0; p < MOST_PARTS; p++) {
                int next = set | 1 << p;
                if ((goal >> p & 1) != 0 && next != set && needs.firstBroken(next) == NONE) {
                    return p;
                }
            }
            return NONE;
        }
    }

    /** Leads a red set to a least one by halves, counting the runs. */
    private static final class Hunt {
        private int least;
        private int spent;

        void follow(Tests tests, int set) {
            spent = 0;
            least = isRed(tests, set) ? set : 0;
            int pieces = 2;
            boolean over = false;
            for (int step = 0; step < MOST_STEPS && !over && Integer.bitCount(least) > 1; step++) {
                int smaller = withoutPiece(tests, pieces);
                if (smaller != NONE) {
                    least = smaller;
                    pieces = Math.max(pieces - 1, 2);
                } else {
                    int size = Integer.bitCount(least);
                    over = pieces >= size;
                    pieces = Math.min(pieces * 2, size);
                }
            }
        }

        private boolean isRed(Tests tests, int set) {
            spent++;
            return tests.firstRed(set) != NONE;
        }

        private int withoutPiece(Tests tests, int pieces) {
            if (pieces < 1) {
                return NONE;
            }
            int size = Integer.bitCount(least);
            int longer = size % pieces;
            int rest = least;
            for (int i = 0; i < pieces; i++) {
                int after = withoutLowest(rest, size / pieces + (i < longer ? 1 : 0));
                int piece = rest & ~after;
                if (isRed(tests, least & ~piece)) {
                    return least & ~piece;
                }
                rest = after;
            }
            return NONE;
        }

        private static int withoutLowest(int set, int many) {
            int rest = set;
            for (int i = 0; i < many; i++) {
                rest &= ~Integer.lowestOneBit(rest);
            }
            return rest;
        }
    }

    private static final class OneWays {
        private final int[] parts;
        private final int[] versions;
        private int size;

        OneWays() {
            parts = new int[MOST_ONE_WAYS];
            versions = new int[MOST_ONE_WAYS];
            size = 0;
        }

        int find(int p, int version) {
            for (int i = 0; i < size; i++) {
                if (parts[i] == p && versions[i] == version) {
                    return i;
                }
            }
            return NONE;
        }

        boolean add(int p, int version) {
            if (size >= MOST_ONE_WAYS || find(p, version) != NONE) {
                return false;
            }
            parts[size] = p;
            versions[size] = version;
            size++;
            return true;
        }

        // Their order tells nothing, so the last one may take the place that falls free.
        boolean remove(int p, int version) {
            int i = find(p, version);
            if (i == NONE) {
                return false;
            }
            size--;
            parts[i] = parts[size];
            versions[i] = versions[size];
            return true;
        }
    }

    private static final class Train {
        private final int[] ahead;
        private final int[] behind;
        private final int load;
        private boolean isBack;

        Train(int[] ahead, int[] behind, int load) {
            this.ahead = ahead;
            this.behind = behind;
            this.load = load;
            this.isBack = false;
        }
    }
}
