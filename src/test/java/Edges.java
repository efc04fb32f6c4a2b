import java.util.List;
import java.util.function.Consumer;
import java.util.function.Predicate;
import java.util.function.ToIntFunction;

/** What the tests of edges share: the states that desks are brought to, and what is asked of a refused call. */
abstract class Edges {
    static final int NONE = TrainDesk.NONE;
    static final int GONE = Desk.GONE;
    static final int[] NO_VERSIONS = {-1, 1001, Integer.MIN_VALUE, Integer.MAX_VALUE};
    static final int[] NO_WORTHS = {0, -1, 1001, Integer.MIN_VALUE, Integer.MAX_VALUE};
    /** Of three parts, in every state below. */
    static final int[] NO_PARTS = {3, -1, 4, 9, 10, 31, 32, 33, Integer.MIN_VALUE, Integer.MAX_VALUE};
    static final int[] NO_SETS = {8, -1, 9, 15, 16, 512, 1024, 1 << 30, -8, Integer.MIN_VALUE, Integer.MAX_VALUE};
    static final Due DUE = new Due();

    /** Three parts in each, so that what is wrong by its numbers can be tried in all of them. */
    static final List<Consumer<Desk>> STATES = List.of(parts(3), Edges::open, Edges::emptyCut, Edges::behindTheCut,
        Edges::noOrder, Edges::sent, Edges::nextCut, Edges::takenBack);

    static void is(String told, long got, long want) {
        DUE.is(told, got, want);
    }

    static void is(String told, boolean got, boolean want) {
        DUE.is(told, got, want);
    }

    static Desk made(Consumer<Desk> making) {
        Desk d = new Desk();
        making.accept(d);
        return d;
    }

    static Consumer<Desk> then(Consumer<Desk> first, Consumer<Desk> next) {
        return first.andThen(next);
    }

    /** Parts at home at 5, so that there are versions on both sides of it. */
    static Consumer<Desk> parts(int many) {
        return d -> {
            for (int p = 0; p < many; p++) {
                d.part(5);
            }
        };
    }

    /** The same, each with an offer of 6, worth 10. */
    static Consumer<Desk> offered(int many) {
        return parts(many).andThen(d -> {
            for (int p = 0; p < many; p++) {
                d.offer(p, 6, 10);
            }
        });
    }

    static Consumer<Desk> trains(int many) {
        return d -> {
            for (int t = 0; t < many; t++) {
                d.cut();
                d.send();
            }
        };
    }

    /** Parts 0 and 1 have offers, 2 has none. */
    static void open(Desk d) {
        parts(3).accept(d);
        d.offer(0, 6, 10);
        d.offer(1, 7, 20);
        d.need(0, 6, 1, 7, 8);
        d.test(4);
        d.oneWay(2, 5, true);
    }

    static void emptyCut(Desk d) {
        parts(3).accept(d);
        d.cut();
    }

    /** Parts 0 and 1 are chosen, 1 goes first; offers for 0 and 2 are kept. */
    static void behindTheCut(Desk d) {
        open(d);
        d.cut();
        d.offer(0, 9, 3);
        d.offer(2, 8, 4);
    }

    /** Parts 0 and 1 are chosen, but each needs the other one first; 2 is left by a test. */
    static void noOrder(Desk d) {
        offered(3).accept(d);
        d.need(0, 6, 1, 6, 6);
        d.need(1, 6, 0, 6, 6);
        d.test(4);
        d.cut();
    }

    /** Train 0 brought 0 and 1; 0 and 2 have offers. */
    static void sent(Desk d) {
        behindTheCut(d);
        d.send();
    }

    /** Part 0 is chosen, 2 is left by a test. */
    static void nextCut(Desk d) {
        sent(d);
        d.cut();
    }

    static void takenBack(Desk d) {
        sent(d);
        d.back();
    }

    /** A second desk, made alike but spared the call, must look the same behind it. */
    static void unchanged(String told, Consumer<Desk> making, ToIntFunction<Desk> call, int answer) {
        Desk d = made(making);
        is(told, call.applyAsInt(d), answer);
        String ahead = made(making).seen();
        String behind = d.seen();
        is(told + " changed something: " + behind + ", ahead of it " + ahead, behind.equals(ahead), true);
    }

    static void none(String told, Consumer<Desk> making, ToIntFunction<Desk> call) {
        unchanged(told, making, call, NONE);
    }

    static void no(String told, Consumer<Desk> making, Predicate<Desk> call) {
        unchanged(told, making, d -> call.test(d) ? 1 : 0, 0);
    }

    static void gone(String told, Consumer<Desk> making, ToIntFunction<Desk> call) {
        unchanged(told, making, call, GONE);
    }

    /** Refused in every state. */
    static void neverAny(String told, ToIntFunction<Desk> call) {
        for (int i = 0; i < STATES.size(); i++) {
            none(told + ", state " + i, STATES.get(i), call);
        }
    }

    static void never(String told, Predicate<Desk> call) {
        for (int i = 0; i < STATES.size(); i++) {
            no(told + ", state " + i, STATES.get(i), call);
        }
    }

    /** Refused in every state that has no cut at hand. */
    static void refusedWithoutACut(String told, ToIntFunction<Desk> call, int answer) {
        unchanged(told + " of a new object", parts(0), call, answer);
        unchanged(told + " of parts alone", parts(3), call, answer);
        unchanged(told + " ahead of it", Edges::open, call, answer);
        unchanged(told + " it is sent", Edges::sent, call, answer);
        unchanged(told + " it is taken back", Edges::takenBack, call, answer);
        unchanged(told + " it is given up", then(Edges::behindTheCut, Desk::giveUp), call, answer);
        unchanged(told + " it was refused", parts(3).andThen(d -> d.need(0, 5, 1, 6, 6)).andThen(Desk::cut), call,
            answer);
    }

    static void noneWithoutACut(String told, ToIntFunction<Desk> call) {
        refusedWithoutACut(told, call, NONE);
    }
}
