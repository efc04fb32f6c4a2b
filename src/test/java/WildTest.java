import java.util.function.ToIntFunction;

/** Whatever the numbers, no call throws but was, and what is refused changes nothing. */
public final class WildTest {
    private static final int[] WILD = {
        Integer.MIN_VALUE, Integer.MIN_VALUE + 1, -1025, -1024, -33, -32, -31, -2, -1, 0, 1, 2, 3, 9, 10, 11, 12, 30,
        31, 32, 33, 59, 60, 61, 1000, 1001, 1023, 1024, 1025, 65536, Integer.MAX_VALUE - 1, Integer.MAX_VALUE,
    };
    private static final Due DUE = new Due();

    public static void main(String[] args) {
        for (int parts = 0; parts <= 10; parts++) {
            for (int state = 0; state < 4; state++) {
                one(made(parts, state));
                for (int a : WILD) {
                    two(made(parts, state), a);
                    for (int b : WILD) {
                        three(made(parts, state), a, b);
                    }
                }
                refusals(parts, state);
            }
        }
        DUE.end("WildTest");
    }

    /** 0 open, 1 behind the cut, 2 with a train out, 3 behind the cut of the next train. */
    private static Desk made(int parts, int state) {
        Desk x = new Desk();
        for (int p = 0; p < parts; p++) {
            x.part(1);
            if (p != 1) {
                x.offer(p, 2, p + 1);
            }
        }
        x.need(0, 2, 2, 2, 2);
        x.test(1 << 3);
        if (state > 0) {
            x.cut();
        }
        if (state > 1) {
            x.send();
            x.offer(0, 3, 4);
        }
        if (state > 2) {
            x.cut();
            x.offer(0, 1, 1);
        }
        return x;
    }

    private static void calm(String call, boolean isCalm) {
        DUE.is(call + " throws", !isCalm, false);
    }

    private static void one(Desk x) {
        for (int a : WILD) {
            try {
                x.part(a);
                x.withdraw(a);
                x.test(a);
                x.fits(a);
                x.red(a);
                x.why(a);
                x.order(a);
                x.blame(a);
                x.runs(a);
                x.brought(a);
                x.count(a);
                calm("one " + a, true);
            } catch (RuntimeException e) {
                calm("one " + a + " " + e, false);
            }
        }
    }

    private static void two(Desk x, int a) {
        for (int b : WILD) {
            try {
                x.told(a, b);
                x.oneWay(a, b, true);
                x.oneWay(a, b, false);
                was(x, a, b);
                calm("two", true);
            } catch (RuntimeException e) {
                calm("two " + a + " " + b + " " + e, false);
            }
        }
    }

    /** No part comes behind a train here, so each train knows all parts. */
    private static void was(Desk x, int train, int part) {
        boolean there = train >= 0 && train < x.count(3) && part >= 0 && part < x.count(0);
        String call = "was(" + train + ", " + part + ") is of a train and a part there";
        DUE.is(call, x.was(train, part, true) != Desk.GONE, there);
        DUE.is(call, x.was(train, part, false) != Desk.GONE, there);
    }

    private static void three(Desk x, int a, int b) {
        for (int c : WILD) {
            try {
                x.leave(a, b, c);
                x.fix(a, b, c);
                x.offer(a, b, c);
                x.need(a, b, c, a, b);
                x.need(0, a, 1, b, c);
                calm("three", true);
            } catch (RuntimeException e) {
                calm("three " + a + " " + b + " " + c + " " + e, false);
            }
        }
    }

    private static void refusals(int parts, int state) {
        String ahead = made(parts, state).seen();
        for (int a : WILD) {
            refused(made(parts, state), ahead, "part", x -> a >= 0 && a <= 1000 ? -1 : x.part(a));
            refused(made(parts, state), ahead, "need lo above hi", x -> x.need(0, 1, a, 5, 4));
            refused(made(parts, state), ahead, "need alike", x -> x.need(a, 1, a, 1, 1));
            refused(made(parts, state), ahead, "test", x -> a > 0 && a < 1024 ? -1 : x.test(a));
            refused(made(parts, state), ahead, "offer", x -> x.offer(a, a, 0) ? 1 : -1);
            refused(made(parts, state), ahead, "fix", x -> x.fix(a, -1, 1));
            refused(made(parts, state), ahead, "leave", x -> x.leave(a, 7, 0));
            refused(made(parts, state), ahead, "oneWay", x -> x.oneWay(a, 1, false) ? 1 : -1);
        }
        for (int p = 0; p < parts; p++) {
            Desk x = made(parts, state);
            x.leave(p, 7, 3);
            refused(x, ahead, "leave is not done", same -> -1);
        }
    }

    private static void refused(Desk x, String ahead, String call, ToIntFunction<Desk> asked) {
        DUE.is(call + " is refused", asked.applyAsInt(x), -1);
        String behind = x.seen();
        DUE.is(call + " changed something: " + behind + " from " + ahead, behind.equals(ahead), true);
    }
}
