import java.util.NoSuchElementException;

/** A TrainDesk that counts its calls: nothing is promised behind the 512th, so no edge may rest on one. */
final class Desk {
    static final int MOST_CALLS = 512;
    /** Stands for the NoSuchElementException of was. */
    static final int GONE = -7;
    private final TrainDesk desk = new TrainDesk();
    private int calls;

    private TrainDesk asked() {
        calls++;
        if (calls > MOST_CALLS) {
            throw new AssertionError("a test makes more calls than the document promises answers for");
        }
        return desk;
    }

    int calls() {
        return calls;
    }

    int part(int version) {
        return asked().part(version);
    }

    boolean offer(int part, int version, int worth) {
        return asked().offer(part, version, worth);
    }

    boolean withdraw(int part) {
        return asked().withdraw(part);
    }

    int need(int part, int version, int other, int lo, int hi) {
        return asked().need(part, version, other, lo, hi);
    }

    int test(int set) {
        return asked().test(set);
    }

    int fits(int set) {
        return asked().fits(set);
    }

    int red(int set) {
        return asked().red(set);
    }

    int cut() {
        return asked().cut();
    }

    int chosen() {
        return asked().chosen();
    }

    int worth() {
        return asked().worth();
    }

    int why(int part) {
        return asked().why(part);
    }

    int fix(int part, int version, int worth) {
        return asked().fix(part, version, worth);
    }

    int leave(int part, int version, int worth) {
        return asked().leave(part, version, worth);
    }

    int order(int i) {
        return asked().order(i);
    }

    int send() {
        return asked().send();
    }

    boolean giveUp() {
        return asked().giveUp();
    }

    boolean oneWay(int part, int version, boolean is) {
        return asked().oneWay(part, version, is);
    }

    int back() {
        return asked().back();
    }

    int blame(int set) {
        return asked().blame(set);
    }

    int runs(int set) {
        return asked().runs(set);
    }

    int told(int part, int what) {
        return asked().told(part, what);
    }

    int was(int train, int part, boolean behind) {
        try {
            return asked().was(train, part, behind);
        } catch (NoSuchElementException e) {
            return GONE;
        }
    }

    int brought(int train) {
        return asked().brought(train);
    }

    int count(int what) {
        return asked().count(what);
    }

    /** All that the desk tells of itself, in one text: two desks that have the same are in the same state. */
    String seen() {
        StringBuilder text = new StringBuilder("counts");
        int parts = count(0);
        int trains = count(3);
        for (int what = 0; what <= 8; what++) {
            add(text, count(what));
        }
        add(text.append(" cut"), chosen());
        add(text, worth());
        for (int p = 0; p < parts; p++) {
            text.append(" part");
            for (int what = 0; what <= 4; what++) {
                add(text, told(p, what));
            }
            add(text, why(p));
            add(text, order(p));
        }
        for (int t = 0; t < trains; t++) {
            add(text.append(" train"), brought(t));
            for (int p = 0; p < parts; p++) {
                add(text, was(t, p, false));
                add(text, was(t, p, true));
            }
        }
        text.append(" sets");
        // Needs and tests are told by no number but through these; more sets would not fit in 512 calls.
        for (int set = 0; set < 1 << Math.min(parts, 4); set++) {
            add(text, fits(set));
            add(text, red(set));
        }
        return text.toString();
    }

    private static void add(StringBuilder text, int number) {
        text.append(' ').append(number);
    }
}
