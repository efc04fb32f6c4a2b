import java.util.Random;
import java.util.function.ToIntFunction;

/** Whatever the numbers, no call throws but was, and what is refused changes nothing. */
public final class WildTest {
    private static final int[] WILD = {
        Integer.MIN_VALUE, Integer.MIN_VALUE + 1, -1025, -1024, -33, -32, -31, -2, -1, 0, 1, 2, 3, 9, 10, 11, 12, 30,
        31, 32, 33, 59, 60, 61, 1000, 1001, 1023, 1024, 1025, 65536, Integer.MAX_VALUE - 1, Integer.MAX_VALUE,
    };
    private static final Due DUE = new Due();

    public static void main(String[] args) {
        for (int parts = 0; parts <= 10; parts++) {
            for (int state = 0; state < 4; state++) {
                one(made(parts, state));
                for (int a : WILD) {
                    two(made(parts, state), a);
                    for (int b : WILD) {
                        three(made(parts, state), a, b);
                    }
                }
                refusals(parts, state);
            }
        }
        for (int seed = 0; seed < 40; seed++) {
            longAfter(seed);
        }
        DUE.end("WildTest");
    }

    /** 0 open, 1 behind the cut, 2 with a train out, 3 behind the cut of the next train. */
    private static Desk made(int parts, int state) {
        Desk x = new Desk();
        for (int p = 0; p < parts; p++) {
            x.part(1);
            if (p != 1) {
                x.offer(p, 2, p + 1);
            }
        }
        x.need(0, 2, 2, 2, 2);
        x.test(1 << 3);
        if (state > 0) {
            x.cut();
        }
        if (state > 1) {
            x.send();
            x.offer(0, 3, 4);
        }
        if (state > 2) {
            x.cut();
            x.offer(0, 1, 1);
        }
        return x;
    }

    private static void calm(String call, boolean isCalm) {
        DUE.is(call + " throws", !isCalm, false);
    }

    private static void one(Desk x) {
        for (int a : WILD) {
            try {
                x.part(a);
                x.withdraw(a);
                x.test(a);
                x.fits(a);
                x.red(a);
                x.why(a);
                x.order(a);
                x.blame(a);
                x.runs(a);
                x.brought(a);
                x.count(a);
                calm("one " + a, true);
            } catch (RuntimeException e) {
                calm("one " + a + " " + e, false);
            }
        }
    }

    private static void two(Desk x, int a) {
        for (int b : WILD) {
            try {
                x.told(a, b);
                x.oneWay(a, b, true);
                x.oneWay(a, b, false);
                was(x, a, b);
                calm("two", true);
            } catch (RuntimeException e) {
                calm("two " + a + " " + b + " " + e, false);
            }
        }
    }

    /** No part comes behind a train here, so each train knows all parts. */
    private static void was(Desk x, int train, int part) {
        boolean there = train >= 0 && train < x.count(3) && part >= 0 && part < x.count(0);
        String call = "was(" + train + ", " + part + ") is of a train and a part there";
        DUE.is(call, x.was(train, part, true) != Desk.GONE, there);
        DUE.is(call, x.was(train, part, false) != Desk.GONE, there);
    }

    private static void three(Desk x, int a, int b) {
        for (int c : WILD) {
            try {
                x.leave(a, b, c);
                x.fix(a, b, c);
                x.offer(a, b, c);
                x.need(a, b, c, a, b);
                x.need(0, a, 1, b, c);
                calm("three", true);
            } catch (RuntimeException e) {
                calm("three " + a + " " + b + " " + c + " " + e, false);
            }
        }
    }

    /** Behind the 512th call the answers are free, but LANGUAGE.md lets no call throw by itself or fail to end. */
    private static void longAfter(int seed) {
        Random any = new Random(seed);
        TrainDesk x = new TrainDesk();
        for (int call = 0; call < 20 * Desk.MOST_CALLS; call++) {
            int p = any.nextInt(11);
            int v = any.nextInt(5);
            try {
                lateCall(x, any.nextInt(12), p, v, any.nextInt(1024));
                calm("late", true);
            } catch (RuntimeException e) {
                calm("late, seed " + seed + " call " + call + " " + e, false);
            }
        }
    }

    private static void lateCall(TrainDesk x, int which, int p, int v, int set) {
        switch (which) {
            case 0: x.part(v); break;
            case 1: x.offer(p, v, 1 + set % 9); break;
            case 2: x.need(p, v, set % 10, v / 2, 4); break;
            case 3: x.test(set); break;
            case 4: x.cut(); break;
            case 5: x.fix(p, v, 1 + set % 9); break;
            case 6: x.leave(p, v, 1 + set % 9); break;
            case 7: x.send(); break;
            case 8: x.giveUp(); break;
            case 9: x.oneWay(p, v + set, set % 3 != 0); break;
            case 10: x.back(); break;
            default: x.blame(set); x.runs(set); x.why(p); x.order(p); x.told(p, v); x.fits(set); x.withdraw(p);
        }
    }

    private static void refusals(int parts, int state) {
        String ahead = made(parts, state).seen();
        for (int a : WILD) {
            refused(made(parts, state), ahead, "part", x -> a >= 0 && a <= 1000 ? -1 : x.part(a));
            refused(made(parts, state), ahead, "need lo above hi", x -> x.need(0, 1, a, 5, 4));
            refused(made(parts, state), ahead, "need alike", x -> x.need(a, 1, a, 1, 1));
            refused(made(parts, state), ahead, "test", x -> a > 0 && a < 1024 ? -1 : x.test(a));
            refused(made(parts, state), ahead, "offer", x -> x.offer(a, a, 0) ? 1 : -1);
            refused(made(parts, state), ahead, "fix", x -> x.fix(a, -1, 1));
            refused(made(parts, state), ahead, "leave", x -> x.leave(a, 7, 0));
            refused(made(parts, state), ahead, "oneWay", x -> x.oneWay(a, 1, false) ? 1 : -1);
        }
        for (int p = 0; p < parts; p++) {
            Desk x = made(parts, state);
            x.leave(p, 7, 3);
            refused(x, ahead, "leave is not done", same -> -1);
        }
    }

    private static void refused(Desk x, String ahead, String call, ToIntFunction<Desk> asked) {
        DUE.is(call + " is refused", asked.applyAsInt(x), -1);
        String behind = x.seen();
        DUE.is(call + " changed something: " + behind + " from " + ahead, behind.equals(ahead), true);
    }
}
