import java.util.NoSuchElementException;

/** Promise by promise: ordinary inputs, the edges that the document names, wrong inputs. */
public final class PromisesTest {
    private static final int NONE = TrainDesk.NONE;
    private static final Due DUE = new Due();

    public static void main(String[] args) {
        newObject();
        part();
        offer();
        offerBehindTheCut();
        withdraw();
        need();
        needBounds();
        test();
        fits();
        red();
        cut();
        cutTies();
        chosenAndWorth();
        why();
        fix();
        leave();
        order();
        send();
        sendKeptOffers();
        sendSixty();
        giveUp();
        oneWay();
        back();
        backRefused();
        blameAndRuns();
        told();
        was();
        brought();
        count();
        full();
        DUE.end("PromisesTest");
    }

    private static void is(String call, long got, long want) {
        DUE.is(call, got, want);
    }

    private static void is(String call, boolean got, boolean want) {
        DUE.is(call, got, want);
    }

    /** A desk with that many parts, each at version 1. */
    private static TrainDesk desk(int parts) {
        TrainDesk x = new TrainDesk();
        for (int p = 0; p < parts; p++) {
            x.part(1);
        }
        return x;
    }

    /** The same with an offer of version 2 for each part, worth 10. */
    private static TrainDesk offered(int parts) {
        TrainDesk x = desk(parts);
        for (int p = 0; p < parts; p++) {
            x.offer(p, 2, 10);
        }
        return x;
    }

    private static int wasOrThrown(TrainDesk x, int train, int part, boolean behind) {
        try {
            return x.was(train, part, behind);
        } catch (NoSuchElementException e) {
            return -7;
        }
    }

    private static void newObject() {
        TrainDesk x = new TrainDesk();
        for (int what = 0; what < 8; what++) {
            is("1: count(" + what + ")", x.count(what), 0);
        }
        is("1: home fits", x.count(8), 1);
        is("1: chosen", x.chosen(), NONE);
        is("1: told", x.told(0, 0), NONE);
    }

    private static void part() {
        TrainDesk x = new TrainDesk();
        is("2: below", x.part(-1), NONE);
        is("2: above", x.part(1001), NONE);
        is("2: lowest", x.part(0), 0);
        is("2: highest", x.part(1000), 1);
        is("2: home", x.told(1, 0), 1000);
        is("2: refused ones are not counted", x.count(0), 2);
        for (int p = 2; p < 10; p++) {
            is("2: part", x.part(7), p);
        }
        is("2: an eleventh", x.part(7), NONE);
        is("2: ten", x.count(0), 10);
        TrainDesk y = desk(1);
        y.cut();
        is("2: behind the cut", y.part(1), NONE);
        y.giveUp();
        is("2: given up", y.part(1), 1);
    }

    private static void offer() {
        TrainDesk x = desk(2);
        is("3: no such part", x.offer(2, 2, 1), false);
        is("3: part below", x.offer(-1, 2, 1), false);
        is("3: version below", x.offer(0, -1, 1), false);
        is("3: version above", x.offer(0, 1001, 1), false);
        is("3: worth 0", x.offer(0, 2, 0), false);
        is("3: worth above", x.offer(0, 2, 1001), false);
        is("3: at home", x.offer(0, 1, 5), false);
        is("3: none came", x.count(5), 0);
        is("3: least", x.offer(0, 0, 1), true);
        is("3: greatest", x.offer(1, 1000, 1000), true);
        is("3: version", x.told(1, 1), 1000);
        is("3: worth", x.told(1, 2), 1000);
        is("3: another one", x.offer(0, 5, 6), true);
        is("3: is that", x.told(0, 1) * 10 + x.told(0, 2), 56);
        is("3: a refused one leaves it", x.offer(0, 1, 5), false);
        is("3: as it was", x.told(0, 1) * 10 + x.told(0, 2), 56);
        is("3: none is kept without a cut", x.told(0, 3), NONE);
    }

    private static void offerBehindTheCut() {
        TrainDesk x = desk(2);
        x.offer(0, 2, 9);
        x.cut();
        is("3: will be at home", x.offer(0, 2, 3), false);
        is("3: at home but not for long", x.offer(0, 1, 3), true);
        is("3: kept", x.told(0, 3) * 10 + x.told(0, 4), 13);
        is("3: the train's stays", x.told(0, 1) * 10 + x.told(0, 2), 29);
        is("3: not chosen, at home", x.offer(1, 1, 3), false);
        is("3: not chosen", x.offer(1, 2, 3), true);
        is("3: not of this train", x.told(1, 1), NONE);
        is("3: kept ones are not counted", x.count(5), 1);
        is("3: another one kept", x.offer(1, 3, 4), true);
        is("3: is that one", x.told(1, 3) * 10 + x.told(1, 4), 34);
        is("3: behind the cut, worth 0", x.offer(1, 3, 0), false);
        is("3: behind the cut, no such part", x.offer(2, 3, 1), false);
    }

    private static void withdraw() {
        TrainDesk x = offered(2);
        is("4: no such part", x.withdraw(2), false);
        is("4: part below", x.withdraw(-1), false);
        is("4: one", x.withdraw(0), true);
        is("4: it is gone", x.told(0, 1), NONE);
        is("4: with its worth", x.told(0, 2), NONE);
        is("4: none", x.withdraw(0), false);
        is("4: the other stays", x.told(1, 1), 2);
        x.cut();
        is("4: behind the cut none is kept", x.withdraw(1), false);
        x.offer(1, 3, 4);
        is("4: behind the cut a kept one", x.withdraw(1), true);
        is("4: it is kept no more", x.told(1, 3), NONE);
        is("4: the train's stays", x.told(1, 1), 2);
        is("4: kept none", x.withdraw(1), false);
    }

    private static void need() {
        TrainDesk x = offered(3);
        is("5: the first", x.need(0, 2, 1, 2, 3), 0);
        is("5: without the other", x.fits(1), 0);
        is("5: with it", x.fits(3), 1);
        is("5: not at that version", x.fits(4), 1);
        is("5: the second", x.need(2, 1, 1, 1, 1), 1);
        is("5: at home needs it at home", x.fits(2), 0);
        is("5: away from home needs nothing", x.fits(6), 1);
        for (int n = 2; n < 30; n++) {
            is("5: alike ones count anew", x.need(0, 2, 1, 2, 3), n);
        }
        is("5: there are 30", x.need(0, 2, 1, 2, 3), NONE);
        is("5: count", x.count(1), 30);
        is("5: 30 that hold", x.fits(7), 1);
        is("5: 30 that do not", x.fits(1), 0);
    }

    private static void needBounds() {
        TrainDesk x = desk(2);
        is("5: no such part", x.need(2, 1, 0, 1, 1), NONE);
        is("5: part below", x.need(-1, 1, 0, 1, 1), NONE);
        is("5: no such other", x.need(0, 1, 2, 1, 1), NONE);
        is("5: other below", x.need(0, 1, -1, 1, 1), NONE);
        is("5: alike", x.need(1, 1, 1, 1, 1), NONE);
        is("5: version below", x.need(0, -1, 1, 1, 1), NONE);
        is("5: version above", x.need(0, 1001, 1, 1, 1), NONE);
        is("5: lo below", x.need(0, 1, 1, -1, 1), NONE);
        is("5: hi above", x.need(0, 1, 1, 1, 1001), NONE);
        is("5: lo above hi", x.need(0, 1, 1, 2, 1), NONE);
        is("5: none came", x.count(1), 0);
        is("5: widest", x.need(0, 0, 1, 0, 1000), 0);
        is("5: highest version", x.need(1, 1000, 0, 0, 0), 1);
        x.cut();
        is("5: behind the cut", x.need(0, 1, 1, 1, 1), NONE);
        x.giveUp();
        is("5: given up", x.need(0, 1, 1, 1, 1), 2);
    }

    private static void test() {
        TrainDesk x = desk(3);
        is("6: no parts", x.test(0), NONE);
        is("6: no such part", x.test(8), NONE);
        is("6: negative", x.test(-1), NONE);
        is("6: all", x.test(7), 0);
        for (int t = 1; t < 12; t++) {
            is("6: one", x.test(7), t);
        }
        is("6: there are twelve", x.test(7), NONE);
        is("6: count", x.count(2), 12);
        TrainDesk y = desk(1);
        y.cut();
        is("6: behind the cut", y.test(1), NONE);
        y.giveUp();
        is("6: given up", y.test(1), 0);
    }

    private static void fits() {
        TrainDesk x = desk(3);
        x.offer(0, 2, 1);
        x.offer(1, 5, 1);
        is("7: home", x.fits(0), 1);
        is("7: no offer", x.fits(4), NONE);
        is("7: one without an offer", x.fits(5), NONE);
        is("7: no such part", x.fits(8), NONE);
        is("7: negative", x.fits(-1), NONE);
        x.need(0, 2, 1, 3, 5);
        is("7: at hi", x.fits(3), 1);
        x.offer(1, 3, 1);
        is("7: at lo", x.fits(3), 1);
        x.offer(1, 2, 1);
        is("7: below lo", x.fits(3), 0);
        x.offer(1, 6, 1);
        is("7: above hi", x.fits(3), 0);
        is("7: the other alone", x.fits(2), 1);
        x.test(2);
        is("7: tests are not asked", x.fits(2), 1);
        x.need(2, 1, 0, 2, 2);
        is("7: home does not fit", x.fits(0), 0);
    }

    private static void red() {
        TrainDesk x = desk(3);
        is("8: no tests", x.red(7), NONE);
        x.test(6);
        x.test(3);
        x.test(2);
        is("8: the first", x.red(7), 0);
        is("8: not the first", x.red(3), 1);
        is("8: one part", x.red(2), 2);
        is("8: not all its parts", x.red(5), NONE);
        is("8: nothing", x.red(0), NONE);
        is("8: no such part", x.red(15), NONE);
        is("8: negative", x.red(-1), NONE);
    }

    private static void cut() {
        TrainDesk x = offered(3);
        x.need(0, 2, 1, 1, 1);
        x.test(6);
        is("9: greatest that goes", x.cut(), 5);
        is("9: at hand", x.cut(), NONE);
        is("9: still", x.chosen(), 5);
        x.giveUp();
        x.offer(1, 2, 21);
        is("9: by worth, not by number", x.cut(), 2);
        TrainDesk y = desk(2);
        is("9: no offers", y.cut(), 0);
        y.giveUp();
        y.need(0, 1, 1, 2, 2);
        is("9: none goes", y.cut(), NONE);
        is("9: then there is no cut", y.count(7), 0);
        y.offer(1, 2, 1);
        y.offer(0, 3, 1);
        y.test(1);
        is("9: one that mends home", y.cut(), 2);
        TrainDesk z = offered(10);
        is("9: all ten", z.cut(), 1023);
    }

    private static void cutTies() {
        TrainDesk x = offered(3);
        x.test(3);
        x.test(5);
        x.test(6);
        is("9: the lowest part", x.cut(), 1);
        TrainDesk y = desk(4);
        y.offer(0, 2, 10);
        y.offer(1, 2, 4);
        y.offer(2, 2, 6);
        y.offer(3, 2, 10);
        y.test(3);
        y.test(5);
        y.test(9);
        y.test(10);
        y.test(12);
        is("9: {0}, {3}, {1, 2} alike", y.cut(), 1);
        y.giveUp();
        y.withdraw(0);
        is("9: {1, 2} ahead of {3}", y.cut(), 6);
    }

    private static void chosenAndWorth() {
        TrainDesk x = offered(2);
        is("10: no cut", x.chosen(), NONE);
        is("11: no cut", x.worth(), NONE);
        x.offer(1, 3, 1000);
        x.cut();
        is("10: chosen", x.chosen(), 3);
        is("11: sum", x.worth(), 1010);
        x.offer(1, 4, 7);
        is("11: kept ones are not in it", x.worth(), 1010);
        x.giveUp();
        is("10: given up", x.chosen(), NONE);
        is("11: given up", x.worth(), NONE);
        TrainDesk y = new TrainDesk();
        y.cut();
        is("10: nothing", y.chosen(), 0);
        is("11: nothing", y.worth(), 0);
        y.send();
        is("10: sent", y.chosen(), NONE);
    }

    private static void why() {
        TrainDesk x = offered(4);
        x.part(1);
        x.need(3, 7, 0, 0, 0);
        x.need(0, 2, 1, 1, 1);
        x.need(1, 2, 0, 1, 1);
        x.test(8);
        x.test(2);
        x.test(6);
        x.offer(0, 2, 500);
        is("12: no cut", x.why(1), NONE);
        x.cut();
        is("12: chosen of it", x.chosen(), 5);
        is("12: a need ahead of tests", x.why(1), 101);
        is("12: a test", x.why(3), 200);
        is("12: it is chosen", x.why(0), NONE);
        is("12: no offer", x.why(4), NONE);
        is("12: no such part", x.why(5), NONE);
        is("12: below", x.why(-1), NONE);
        x.offer(4, 2, 1);
        is("12: a kept one is none", x.why(4), NONE);
        TrainDesk y = desk(2);
        y.offer(0, 2, 5);
        y.need(0, 2, 1, 2, 2);
        y.cut();
        is("12: needs the other", y.why(0), 100);
        y.fix(1, 2, 1);
        is("12: nothing is in the way now", y.why(0), 0);
        is("12: and it did not board", y.chosen(), 2);
        TrainDesk z = offered(2);
        z.test(1);
        z.test(3);
        z.test(2);
        z.cut();
        is("12: first red", z.why(1), 202);
    }

    private static void fix() {
        TrainDesk x = desk(3);
        x.offer(0, 2, 10);
        is("13: no cut", x.fix(1, 2, 5), NONE);
        x.need(1, 3, 0, 1, 1);
        x.test(5);
        x.cut();
        is("13: no such part", x.fix(3, 2, 5), NONE);
        is("13: part below", x.fix(-1, 2, 5), NONE);
        is("13: version below", x.fix(1, -1, 5), NONE);
        is("13: version above", x.fix(1, 1001, 5), NONE);
        is("13: worth 0", x.fix(1, 2, 0), NONE);
        is("13: worth above", x.fix(1, 2, 1001), NONE);
        is("13: chosen", x.fix(0, 3, 5), NONE);
        is("13: at home", x.fix(1, 1, 5), NONE);
        is("13: does not fit", x.fix(1, 3, 5), 0);
        is("13: no offer came", x.told(1, 1), NONE);
        is("13: red", x.fix(2, 2, 1000), 0);
        is("13: nothing changed", x.chosen() * 100 + x.worth(), 110);
        is("13: boards", x.fix(1, 4, 1000), 1);
        is("13: chosen now", x.chosen() * 10000 + x.worth(), 31010);
        is("13: its offer", x.told(1, 1) * 10000 + x.told(1, 2), 41000);
        is("13: it is chosen", x.fix(1, 5, 1), NONE);
        is("13: in the order too", x.order(1), 1);
        is("13: goes out", x.send(), 0);
        is("13: at home", x.told(1, 0), 4);
        TrainDesk y = desk(2);
        y.offer(0, 2, 3);
        y.test(1);
        y.cut();
        is("13: left, and red", y.fix(0, 3, 9), 0);
        is("13: its old offer stays", y.told(0, 1) * 10 + y.told(0, 2), 23);
        y.offer(1, 5, 6);
        is("13: one with a kept offer", y.fix(1, 2, 7), 1);
        is("13: which stays kept", y.told(1, 3) * 10 + y.told(1, 4), 56);
        is("13: beside the fix", y.told(1, 1) * 10 + y.told(1, 2), 27);
        y.giveUp();
        is("13: the kept one comes behind it", y.told(1, 1) * 10 + y.told(1, 2), 56);
    }

    private static void leave() {
        TrainDesk x = desk(5);
        x.offer(0, 2, 10);
        x.offer(1, 2, 6);
        x.offer(2, 2, 4);
        is("14: no cut", x.leave(3, 2, 5), NONE);
        x.test(8 + 1 + 2);
        x.test(8 + 1 + 4);
        x.need(4, 2, 3, 2, 2);
        x.need(4, 4, 0, 1, 1);
        x.need(4, 4, 1, 1, 1);
        x.cut();
        is("14: no such part", x.leave(5, 2, 5), NONE);
        is("14: part below", x.leave(-1, 2, 5), NONE);
        is("14: version above", x.leave(3, 1001, 5), NONE);
        is("14: version below", x.leave(3, -1, 5), NONE);
        is("14: worth 0", x.leave(3, 2, 0), NONE);
        is("14: worth above", x.leave(3, 2, 1001), NONE);
        is("14: chosen", x.leave(0, 3, 5), NONE);
        is("14: at home", x.leave(3, 1, 5), NONE);
        is("14: {0} and {1, 2} alike, who has the lower stays", x.leave(3, 2, 5), 6);
        is("14: no such set", x.leave(4, 2, 5), NONE);
        is("14: nobody", x.leave(4, 3, 5), 0);
        is("14: two by needs", x.leave(4, 4, 1), 3);
        is("14: it is not done", x.chosen() * 100 + x.worth(), 720);
        is("14: no offer came", x.told(3, 1), NONE);
        TrainDesk y = desk(3);
        y.offer(0, 2, 5);
        y.offer(1, 2, 1);
        y.offer(2, 2, 2);
        y.test(3);
        y.test(4);
        y.cut();
        is("14: left", y.chosen(), 1);
        is("14: the worthier leaves all the same", y.leave(1, 3, 1), 1);
        is("14: an old offer stays", y.told(1, 1) * 10 + y.told(1, 2), 21);
        is("14: red alone", y.leave(2, 3, 9), NONE);
    }

    private static void order() {
        TrainDesk x = offered(4);
        is("15: no cut", x.order(0), NONE);
        x.need(0, 2, 3, 2, 2);
        x.need(3, 2, 1, 2, 2);
        x.test(4);
        is("15: chosen", x.cut(), 11);
        is("15: first", x.order(0), 1);
        is("15: second", x.order(1), 3);
        is("15: third", x.order(2), 0);
        is("15: no fourth", x.order(3), NONE);
        is("15: below", x.order(-1), NONE);
        x.giveUp();
        is("15: given up", x.order(0), NONE);
        orderAsNeeded();
        TrainDesk y = offered(2);
        y.need(0, 2, 1, 2, 2);
        y.need(1, 2, 0, 2, 2);
        y.cut();
        is("15: none", y.order(0), NONE);
        TrainDesk z = desk(2);
        z.need(0, 1, 1, 2, 2);
        z.offer(1, 2, 1);
        z.cut();
        is("15: home must fit", z.order(0), NONE);
        is("15: so it can't go", z.send(), NONE);
    }

    private static void orderAsNeeded() {
        TrainDesk x = offered(3);
        // 1 ahead of 0, and 2 no sooner than it must.
        x.need(0, 2, 1, 2, 2);
        is("15: cut", x.cut(), 7);
        is("15: lowest open first", x.order(0) * 100 + x.order(1) * 10 + x.order(2), 102);
        TrainDesk y = offered(3);
        y.need(1, 1, 0, 1, 1);
        is("15: cut", y.cut(), 7);
        is("15: one that must be ahead", y.order(0) * 100 + y.order(1) * 10 + y.order(2), 102);
        TrainDesk z = offered(4);
        // 3 ahead of 0, as it needs it at home while it is there itself; 2 ahead of 3.
        z.need(3, 1, 0, 1, 1);
        z.need(3, 2, 2, 2, 2);
        is("15: cut", z.cut(), 15);
        is("15: a chain of two",
            z.order(0) * 1000 + z.order(1) * 100 + z.order(2) * 10 + z.order(3), 1230);
    }

    private static void send() {
        TrainDesk x = offered(3);
        is("16: no cut", x.send(), NONE);
        x.test(4);
        x.cut();
        is("16: the first", x.send(), 0);
        is("16: at home now", x.told(0, 0) + x.told(1, 0), 4);
        is("16: their offers are gone", x.told(0, 1) + x.told(1, 2), -2);
        is("16: the left stays", x.told(2, 0) * 100 + x.told(2, 1) * 10 + x.told(2, 2), 130);
        is("16: no cut behind it", x.count(7), 0);
        is("16: sent once", x.send(), NONE);
        x.cut();
        is("16: nothing goes too", x.send(), 1);
        is("16: trains", x.count(3), 2);
        TrainDesk y = offered(2);
        y.need(0, 2, 1, 2, 2);
        y.need(1, 2, 0, 2, 2);
        y.cut();
        is("16: no order", y.send(), NONE);
        is("16: the cut is still at hand", y.count(7), 1);
    }

    private static void sendKeptOffers() {
        TrainDesk x = offered(4);
        x.test(4);
        x.test(8);
        x.cut();
        x.offer(0, 1, 5);
        x.offer(1, 3, 6);
        x.offer(2, 4, 7);
        x.send();
        is("16: kept, of the home that was", x.told(0, 1) * 10 + x.told(0, 2), 15);
        is("16: kept", x.told(1, 1) * 10 + x.told(1, 2), 36);
        is("16: kept, in place of the left one", x.told(2, 1) * 10 + x.told(2, 2), 47);
        is("16: left", x.told(3, 1) * 10 + x.told(3, 2), 30);
        is("16: none is kept now", x.told(0, 3) + x.told(1, 3) + x.told(2, 3) + x.told(2, 4), -4);
        TrainDesk y = desk(2);
        y.cut();
        y.offer(0, 2, 5);
        y.offer(1, 2, 5);
        y.fix(0, 2, 1);
        y.send();
        is("16: kept, of the version at home then", y.told(0, 1), NONE);
        is("16: the other came", y.told(1, 1), 2);
    }

    private static void sendSixty() {
        TrainDesk x = desk(1);
        for (int t = 0; t < 60; t++) {
            x.offer(0, t % 2 == 0 ? 2 : 1, 1);
            x.cut();
            is("16: train", x.send(), t);
        }
        x.offer(0, 2, 1);
        x.cut();
        is("16: there are 60", x.send(), NONE);
        is("16: home stays", x.told(0, 0), 1);
        x.giveUp();
        is("16: the last goes back", x.back(), 59);
        x.cut();
        is("16: one taken back counts", x.send(), NONE);
    }

    private static void giveUp() {
        TrainDesk x = offered(3);
        is("17: no cut", x.giveUp(), false);
        x.test(4);
        x.cut();
        x.offer(0, 1, 5);
        x.offer(1, 3, 6);
        x.offer(2, 4, 7);
        is("17: given up", x.giveUp(), true);
        is("17: home stays", x.told(0, 0), 1);
        is("17: a kept one of home is gone", x.told(0, 1) * 100 + x.told(0, 2), 210);
        is("17: a kept one comes", x.told(1, 1) * 10 + x.told(1, 2), 36);
        is("17: for the left too", x.told(2, 1) * 10 + x.told(2, 2), 47);
        is("17: none is kept", x.told(0, 3) + x.told(1, 3) + x.told(2, 3), -3);
        is("17: no train", x.count(3), 0);
        is("17: once", x.giveUp(), false);
        x.cut();
        x.send();
        is("17: sent", x.giveUp(), false);
    }

    private static void oneWay() {
        TrainDesk x = desk(2);
        is("18: no such part", x.oneWay(2, 1, true), false);
        is("18: part below", x.oneWay(-1, 1, true), false);
        is("18: version below", x.oneWay(0, -1, true), false);
        is("18: version above", x.oneWay(0, 1001, true), false);
        is("18: it is not so", x.oneWay(0, 1, false), false);
        is("18: it is", x.oneWay(0, 1, true), true);
        is("18: it is so", x.oneWay(0, 1, true), false);
        is("18: another part", x.oneWay(1, 1, true), true);
        is("18: another version", x.oneWay(0, 1000, true), true);
        is("18: count", x.count(6), 3);
        is("18: not", x.oneWay(0, 1, false), true);
        is("18: it is not so now", x.oneWay(0, 1, false), false);
        is("18: the last is still there", x.oneWay(0, 1000, true), false);
        is("18: count", x.count(6), 2);
        x.cut();
        for (int v = 2; v < 60; v++) {
            is("18: behind the cut too", x.oneWay(1, v, true), true);
        }
        is("18: there are 60", x.oneWay(1, 60, true), false);
        is("18: one of them", x.oneWay(1, 59, false), true);
        is("18: room again", x.oneWay(1, 60, true), true);
        is("18: 60", x.count(6), 60);
    }

    private static void back() {
        TrainDesk x = offered(3);
        is("19: none", x.back(), NONE);
        x.test(4);
        x.cut();
        x.send();
        x.offer(0, 3, 5);
        x.cut();
        x.send();
        x.offer(0, 2, 4);
        x.offer(1, 1, 4);
        x.cut();
        is("19: a cut", x.back(), NONE);
        x.giveUp();
        is("19: the latest", x.back(), 1);
        is("19: home as ahead of it", x.told(0, 0), 2);
        is("19: an offer of that is gone", x.told(0, 1) + x.told(0, 2), -2);
        is("19: what it did not bring stays", x.told(1, 0) * 10 + x.told(1, 1), 21);
        x.offer(0, 3, 5);
        is("19: the one ahead", x.back(), 0);
        is("19: home", x.told(0, 0) * 10 + x.told(1, 0), 11);
        is("19: offers", x.told(0, 1) * 10 + x.told(1, 1), 29);
        is("19: no more", x.back(), NONE);
        is("19: trains stay told", x.count(3) * 10 + x.count(4), 20);
        x.cut();
        is("19: a third", x.send(), 2);
        is("19: goes back", x.back(), 2);
        is("19: no further", x.back(), NONE);
    }

    private static void backRefused() {
        TrainDesk x = offered(2);
        x.test(2);
        x.cut();
        x.send();
        x.oneWay(1, 1, true);
        x.oneWay(0, 1, true);
        x.oneWay(1, 2, true);
        x.oneWay(0, 2, true);
        is("19: one way", x.back(), NONE);
        is("19: home stays", x.told(0, 0), 2);
        x.oneWay(0, 2, false);
        x.need(1, 1, 0, 2, 3);
        is("19: would not fit", x.back(), NONE);
        is("19: home stays", x.told(0, 0) * 10 + x.count(4), 21);
        x.offer(0, 3, 1);
        x.cut();
        x.send();
        is("19: one that fits", x.back(), 1);
        TrainDesk y = desk(2);
        y.cut();
        y.send();
        y.need(0, 1, 1, 5, 5);
        is("19: an empty one, home does not fit", y.back(), NONE);
        TrainDesk w = offered(2);
        w.test(2);
        w.cut();
        w.send();
        w.need(0, 1, 1, 5, 5);
        w.offer(0, 1, 3);
        is("19: would not fit, though an offer of that version is open", w.back(), NONE);
        is("19: the offer stays", w.told(0, 0) * 100 + w.told(0, 1) * 10 + w.told(0, 2), 213);
        TrainDesk z = desk(1);
        z.cut();
        z.send();
        is("19: an empty one", z.back(), 0);
    }

    private static void blameAndRuns() {
        TrainDesk x = desk(10);
        is("20: no such part", desk(3).blame(8), NONE);
        is("21: no such part", desk(3).runs(8), NONE);
        is("20: negative", x.blame(-1), NONE);
        is("21: negative", x.runs(-1), NONE);
        is("20: no tests", x.blame(1023), 0);
        is("21: no tests", x.runs(1023), 1);
        is("20: nothing", x.blame(0), 0);
        is("21: nothing", x.runs(0), 1);
        x.test(1 << 9);
        is("20: one part", x.blame(512), 512);
        is("21: one part is over at once", x.runs(512), 1);
        // 1; without 0-4 red: 2; without 5-7: 3; without 8 of 8, 9: 4.
        is("20: ever the first half", x.blame(1023), 512);
        is("21: ever the first half", x.runs(1023), 4);
        is("21: asked alone", x.runs(513), 2);
        TrainDesk y = desk(5);
        y.test(1 + 8);
        // {0 1 2}{3 4} no, no; n 4: {0 1} no, {2} red; n 3 of {0 1 3 4}: {0 1} no, {3} no, {4} red;
        // n 2 of {0 1 3}: {0 1} no, {3} no; n 3: {0} no, {1} red; n 2 of {0 3}: no, no, over.
        is("20: 0 and 3 of five", y.blame(31), 9);
        is("21: 0 and 3 of five", y.runs(31), 1 + 2 + 2 + 3 + 2 + 2 + 2);
        is("20: another set", y.blame(27), 9);
        is("20: not red", y.blame(22), 0);
        is("21: not red", y.runs(22), 1);
        TrainDesk z = desk(3);
        z.test(7);
        // {0 1}{2} no, no; n 3: no, no, no, over.
        is("20: all three", z.blame(7), 7);
        is("21: all three", z.runs(7), 6);
        z.test(2);
        // {0 1} no, {2} red; {0 1}: {0} red; one part.
        is("20: another test comes in", z.blame(7), 2);
        is("21: another test comes in", z.runs(7), 4);
    }

    private static void told() {
        TrainDesk x = offered(2);
        x.cut();
        x.offer(0, 4, 5);
        is("22: home", x.told(0, 0), 1);
        is("22: offer", x.told(0, 1), 2);
        is("22: worth", x.told(0, 2), 10);
        is("22: kept", x.told(0, 3), 4);
        is("22: its worth", x.told(0, 4), 5);
        is("22: none kept", x.told(1, 3), NONE);
        is("22: no worth", x.told(1, 4), NONE);
        is("22: what above", x.told(0, 5), NONE);
        is("22: what below", x.told(0, -1), NONE);
        is("22: no such part", x.told(2, 0), NONE);
        is("22: part below", x.told(-1, 0), NONE);
    }

    private static void was() {
        TrainDesk x = offered(2);
        x.test(2);
        is("23: no such train", wasOrThrown(x, 0, 0, false), -7);
        x.cut();
        x.send();
        x.part(6);
        x.offer(0, 3, 1);
        x.cut();
        x.send();
        is("23: ahead", wasOrThrown(x, 0, 0, false), 1);
        is("23: behind", wasOrThrown(x, 0, 0, true), 2);
        is("23: not brought, ahead", wasOrThrown(x, 0, 1, false), 1);
        is("23: not brought, behind", wasOrThrown(x, 0, 1, true), 1);
        is("23: the next one, ahead", wasOrThrown(x, 1, 0, false), 2);
        is("23: the next one, behind", wasOrThrown(x, 1, 0, true), 3);
        is("23: not there yet", wasOrThrown(x, 0, 2, true), -7);
        is("23: there", wasOrThrown(x, 1, 2, true), 6);
        is("23: part below", wasOrThrown(x, 0, -1, false), -7);
        is("23: train below", wasOrThrown(x, -1, 0, false), -7);
        is("23: train above", wasOrThrown(x, 2, 0, false), -7);
        x.back();
        is("23: taken back", wasOrThrown(x, 1, 0, true), 3);
    }

    private static void brought() {
        TrainDesk x = offered(3);
        x.test(2);
        is("24: none yet", x.brought(0), NONE);
        x.cut();
        x.send();
        x.cut();
        x.send();
        is("24: two parts", x.brought(0), 5);
        is("24: nothing", x.brought(1), 0);
        is("24: no such", x.brought(2), NONE);
        is("24: below", x.brought(-1), NONE);
        x.back();
        x.back();
        is("24: taken back", x.brought(0), 5);
    }

    private static void count() {
        TrainDesk x = offered(4);
        x.need(0, 9, 1, 0, 0);
        x.need(0, 9, 2, 0, 0);
        x.test(3);
        x.oneWay(0, 7, true);
        int[] fresh = {4, 2, 1, 0, 0, 4, 1, 0, 1};
        for (int what = 0; what < 9; what++) {
            is("25: count(" + what + ")", x.count(what), fresh[what]);
        }
        x.cut();
        x.offer(1, 3, 3);
        is("25: a cut", x.count(7), 1);
        is("25: without those kept", x.count(5), 4);
        x.send();
        x.cut();
        x.send();
        x.back();
        is("25: trains", x.count(3), 2);
        is("25: not taken back", x.count(4), 1);
        x.need(1, x.told(1, 0), 0, 900, 900);
        is("25: home does not fit", x.count(8), 0);
        is("25: what above", x.count(9), NONE);
        is("25: what below", x.count(-1), NONE);
    }

    /** Every limit of the document met in one desk. */
    private static void full() {
        TrainDesk x = offered(10);
        for (int n = 0; n < 30; n++) {
            x.need(n % 9, 2, n % 9 + 1, 2, 2);
        }
        for (int t = 0; t < 12; t++) {
            x.test(1023);
        }
        for (int v = 0; v < 60; v++) {
            x.oneWay(v % 10, 100 + v, true);
        }
        is("full: all ten are red together", x.red(1023), 0);
        is("full: nine at the end of the chain", x.cut(), 1022);
        is("full: 0 is left by a test", x.why(0), 200);
        is("full: no fix of it can board", x.fix(0, 3, 1000), 0);
        is("full: 1 gives way to it", x.leave(0, 3, 1000), 2);
        for (int i = 0; i < 9; i++) {
            is("full: the chain from its end", x.order(i), 9 - i);
        }
        is("full: it goes", x.send(), 0);
        is("full: home", x.told(9, 0) * 10 + x.told(0, 0), 21);
        is("full: back", x.back(), 0);
        is("full: least red set", x.blame(1023), 1023);
        // 1, then 2, 4, 8 and 10 pieces.
        is("full: its runs", x.runs(1023), 25);
    }
}
