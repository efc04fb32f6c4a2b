import java.util.function.Consumer;

/** Promises 16, 18, 19, 23 and 24, sentence by sentence: on each edge, just within it and just beyond it. */
public final class TrainEdgesTest extends Edges {
    public static void main(String[] args) {
        sendNoCut();
        sendNoOrder();
        sendThereAre60();
        sendThereAre60TakenBack();
        sendWhatComesHome();
        sendKeptOfHome();
        oneWayNoSuchPart();
        oneWayNoSuchVersion();
        oneWayItIsSo();
        oneWayThereAre60();
        oneWayNotWhere60Are();
        oneWayBehindTheCut();
        backNone();
        backACut();
        backOneWay();
        backOneWayOfOthers();
        backOneWayAsItIsNow();
        backWouldNotFit();
        backWouldNotFitAtTheEdge();
        backEmptyTrain();
        backLatestNotTakenBack();
        backOffersThatComeHome();
        backAllTen();
        wasNoSuchTrain();
        wasPartNotThere();
        broughtNoSuchTrain();
        broughtAllOrNothing();
        DUE.end("TrainEdgesTest");
    }

    private static void sendNoCut() {
        noneWithoutACut("16: no cut:", Desk::send);
        is("16: a cut", made(Edges::behindTheCut).send(), 0);
        is("16: a cut that chose nothing", made(Edges::emptyCut).send(), 0);
        is("16: a cut of no parts", made(parts(0).andThen(Desk::cut)).send(), 0);
        is("16: the next cut", made(Edges::nextCut).send(), 1);
    }

    private static void sendNoOrder() {
        none("16: a ring", Edges::noOrder, Desk::send);
        Consumer<Desk> broken = x -> {
            parts(2).accept(x);
            x.need(0, 5, 1, 6, 6);
            x.offer(1, 6, 1);
            x.cut();
        };
        none("16: home does not fit", broken, Desk::send);
        Desk d = made(Edges::noOrder);
        d.giveUp();
        d.offer(1, 7, 20);
        is("16: the ring is open", d.cut(), 2);
        is("16: it goes", d.send(), 0);
        Desk fixed = made(x -> {
            offered(2).accept(x);
            x.part(5);
            x.need(1, 6, 0, 6, 6);
            x.cut();
        });
        is("16: a fix boards", fixed.fix(2, 6, 1), 1);
        is("16: all three go", fixed.send(), 0);
    }

    private static void sendThereAre60() {
        is("16: the 59th", made(trains(58).andThen(Desk::cut)).send(), 58);
        Desk d = made(trains(59).andThen(Desk::cut));
        is("16: the 60th", d.send(), 59);
        is("16: there are 60", d.count(3), 60);
        none("16: there are 60", trains(60).andThen(Desk::cut), Desk::send);
        Consumer<Desk> full = offered(1).andThen(trains(60)).andThen(x -> {
            x.offer(0, 7, 3);
            x.cut();
            x.offer(0, 8, 4);
        });
        none("16: there are 60, something is chosen", full, Desk::send);
        Desk still = made(full);
        still.send();
        is("16: the cut is at hand", still.count(7), 1);
        is("16: home stays", still.told(0, 0), 6);
        is("16: what is kept is kept", still.told(0, 3), 8);
    }

    private static void sendThereAre60TakenBack() {
        Consumer<Desk> back = trains(60).andThen(Desk::back);
        is("16: one was taken back", made(back).count(4), 59);
        none("16: it counts among the 60", back.andThen(Desk::cut), Desk::send);
        Consumer<Desk> within = trains(59).andThen(Desk::back).andThen(Desk::cut);
        is("16: 59, one was taken back", made(within).send(), 59);
    }

    private static void sendWhatComesHome() {
        Desk d = made(Edges::sent);
        is("16: the chosen are at home", d.told(0, 0) * 10 + d.told(1, 0), 67);
        is("16: the other is where it was", d.told(2, 0), 5);
        is("16: their offers are gone, one came", d.told(0, 1) * 10 + d.told(0, 2), 93);
        is("16: their offers are gone, none came", d.told(1, 1) + d.told(1, 2), -2);
        Desk left = made(Edges::nextCut);
        is("16: the next", left.send(), 1);
        is("16: the left one's stays", left.told(2, 1) * 10 + left.told(2, 2), 84);
        Desk ends = made(d2 -> d2.part(0));
        ends.part(1000);
        ends.offer(0, 1000, 1);
        ends.offer(1, 0, 1);
        ends.cut();
        ends.send();
        is("16: from 0 to 1000", ends.told(0, 0), 1000);
        is("16: from 1000 to 0", ends.told(1, 0), 0);
    }

    private static void sendKeptOfHome() {
        int[][] rows = {{6, 6}, {7, NONE}, {8, 8}};
        for (int[] row : rows) {
            Desk d = made(Edges::emptyCut);
            is("16: kept " + row[0], d.offer(2, row[0], 3), true);
            is("16: a fix at 7", d.fix(2, 7, 1), 1);
            d.send();
            is("16: home is 7, kept was " + row[0], d.told(2, 1), row[1]);
            is("16: it is kept no more", d.told(2, 3), NONE);
            is("16: offers", d.count(5), row[1] == NONE ? 0 : 1);
        }
        Desk old = made(Edges::behindTheCut);
        old.offer(1, 5, 2);
        old.send();
        is("16: kept was the home that was", old.told(1, 1) * 10 + old.told(1, 2), 52);
    }

    private static void oneWayNoSuchPart() {
        is("18: the first part", made(parts(3)).oneWay(0, 5, true), true);
        is("18: the last part", made(parts(3)).oneWay(2, 5, true), true);
        is("18: the last of ten", made(parts(10)).oneWay(9, 5, true), true);
        no("18: an eleventh", parts(10), d -> d.oneWay(10, 5, true));
        for (int p : NO_PARTS) {
            never("18: part " + p, d -> d.oneWay(p, 5, true));
            never("18: part " + p + " not", d -> d.oneWay(p, 5, false));
        }
    }

    private static void oneWayNoSuchVersion() {
        for (int v : new int[] {0, 1, 999, 1000}) {
            Desk d = made(parts(1));
            is("18: version " + v, d.oneWay(0, v, true), true);
            is("18: version " + v + " is so", d.oneWay(0, v, true), false);
            is("18: version " + v + " not", d.oneWay(0, v, false), true);
        }
        for (int v : NO_VERSIONS) {
            never("18: version " + v, d -> d.oneWay(0, v, true));
            never("18: version " + v + " not", d -> d.oneWay(0, v, false));
        }
    }

    private static void oneWayItIsSo() {
        never("18: it is not so", d -> d.oneWay(0, 5, false));
        no("18: it is so", Edges::open, d -> d.oneWay(2, 5, true));
        no("18: it is so, behind the cut", Edges::behindTheCut, d -> d.oneWay(2, 5, true));
        Desk d = made(Edges::open);
        is("18: the next version", d.oneWay(2, 6, true), true);
        is("18: the next part", d.oneWay(1, 5, true), true);
        is("18: three", d.count(6), 3);
        is("18: not any more", d.oneWay(2, 5, false), true);
        is("18: two", d.count(6), 2);
        is("18: it is not so now", d.oneWay(2, 5, false), false);
        is("18: the others are so still", !d.oneWay(2, 6, true) && !d.oneWay(1, 5, true), true);
        is("18: again", d.oneWay(2, 5, true), true);
    }

    private static Consumer<Desk> oneWays(int many) {
        return d -> {
            for (int v = 0; v < many; v++) {
                d.oneWay(v % 2, v, true);
            }
        };
    }

    private static void stillSo(String told, Desk d, int many) {
        for (int v = 0; v < many; v++) {
            is(told + ", " + v + " is so still", d.oneWay(v % 2, v, true), false);
            is(told + ", " + v + " is so of that part alone", d.oneWay(1 - v % 2, v, false), false);
        }
    }

    private static void oneWayThereAre60() {
        is("18: the 59th", made(parts(2).andThen(oneWays(58))).oneWay(0, 700, true), true);
        Desk d = made(parts(2).andThen(oneWays(59)));
        is("18: the 60th", d.oneWay(1, 59, true), true);
        is("18: there are 60", d.count(6), 60);
        Consumer<Desk> full = parts(2).andThen(oneWays(60));
        no("18: there are 60", full, x -> x.oneWay(0, 700, true));
        no("18: there are 60, it is so", full, x -> x.oneWay(0, 0, true));
        no("18: there are 60, it is not so", full, x -> x.oneWay(0, 700, false));
        Desk refused = made(full);
        refused.oneWay(0, 700, true);
        refused.oneWay(0, 700, false);
        refused.oneWay(1, 59, true);
        stillSo("18: refused at 60", refused, 60);
    }

    private static void oneWayNotWhere60Are() {
        for (int v : new int[] {0, 31, 59}) {
            Desk d = made(parts(2).andThen(oneWays(60)));
            is("18: " + v + " not, where 60 are", d.oneWay(v % 2, v, false), true);
            is("18: 59", d.count(6), 59);
            is("18: room for one", d.oneWay(0, 700, true), true);
            is("18: and no more", d.oneWay(0, 701, true), false);
            is("18: not " + v + " again", d.oneWay(v % 2, v, true), false);
        }
    }

    /** No cut refuses it. */
    private static void oneWayBehindTheCut() {
        Desk d = made(Edges::behindTheCut);
        is("18: behind the cut", d.oneWay(1, 7, true), true);
        is("18: not, behind the cut", d.oneWay(2, 5, false), true);
        is("18: one", d.count(6), 1);
        d.send();
        is("19: it holds for the train that was at hand", d.back(), NONE);
    }

    private static void backNone() {
        none("19: of a new object", parts(0), Desk::back);
        none("19: none was sent", Edges::open, Desk::back);
        none("19: it is taken back", Edges::takenBack, Desk::back);
        none("19: all are", parts(1).andThen(trains(2)).andThen(Desk::back).andThen(Desk::back), Desk::back);
        none("19: one was given up", then(Edges::behindTheCut, Desk::giveUp), Desk::back);
        is("19: one", made(Edges::sent).back(), 0);
        Desk all = made(trains(60));
        for (int t = 59; t >= 0; t--) {
            is("19: of 60", all.back(), t);
        }
        is("19: all 60 are taken back", all.back(), NONE);
    }

    private static void backACut() {
        none("19: a cut, and a train is out", Edges::nextCut, Desk::back);
        none("19: a cut that chose nothing", parts(2).andThen(trains(1)).andThen(Desk::cut), Desk::back);
        none("19: a cut, and no train", Edges::behindTheCut, Desk::back);
        Desk d = made(Edges::nextCut);
        d.giveUp();
        is("19: it is given up", d.back(), 0);
        Desk sent = made(Edges::nextCut);
        sent.send();
        is("19: it is sent", sent.back(), 1);
    }

    private static void backOneWay() {
        Consumer<Desk> sent = Edges::sent;
        none("19: 0 is one way at 6", sent.andThen(d -> d.oneWay(0, 6, true)), Desk::back);
        none("19: 1 is one way at 7", sent.andThen(d -> d.oneWay(1, 7, true)), Desk::back);
        Consumer<Desk> both = sent.andThen(d -> d.oneWay(0, 6, true)).andThen(d -> d.oneWay(1, 7, true));
        none("19: both are", both, Desk::back);
        none("19: one is still", both.andThen(d -> d.oneWay(0, 6, false)), Desk::back);
        is("19: none is now", made(both.andThen(d -> d.oneWay(0, 6, false)).andThen(d -> d.oneWay(1, 7, false))).back(),
            0);
        Desk early = made(x -> {
            open(x);
            x.oneWay(0, 6, true);
            x.cut();
            x.send();
        });
        is("19: it was told ahead of the train", early.back(), NONE);
        for (int v : new int[] {0, 1000}) {
            Consumer<Desk> end = parts(1).andThen(d -> d.offer(0, v, 1)).andThen(trains(1));
            is("19: back from " + v, made(end).back(), 0);
            none("19: one way at " + v, end.andThen(d -> d.oneWay(0, v, true)), Desk::back);
        }
    }

    private static void backOneWayOfOthers() {
        Consumer<Desk> sent = Edges::sent;
        is("19: one way just below", made(sent.andThen(d -> d.oneWay(1, 6, true))).back(), 0);
        is("19: one way just above", made(sent.andThen(d -> d.oneWay(1, 8, true))).back(), 0);
        is("19: one way at the home that was", made(sent.andThen(d -> d.oneWay(0, 5, true))).back(), 0);
        is("19: another part at that version", made(sent.andThen(d -> d.oneWay(2, 6, true))).back(), 0);
        is("19: one that was not brought, at its home", made(sent).back(), 0);
        Consumer<Desk> second = sent.andThen(d -> d.oneWay(1, 7, true)).andThen(trains(1));
        Desk d = made(second);
        is("19: an earlier train's part is no hindrance", d.back(), 1);
        is("19: till that train's turn comes", d.back(), NONE);
        is("19: one is out", d.count(4), 1);
    }

    /** One part by two trains: what is asked is the version that it is at now, not one that it was at. */
    private static void backOneWayAsItIsNow() {
        Consumer<Desk> twice = parts(1).andThen(d -> d.offer(0, 6, 1)).andThen(trains(1))
            .andThen(d -> d.offer(0, 9, 1)).andThen(trains(1));
        none("19: one way at 9, where it is", twice.andThen(d -> d.oneWay(0, 9, true)), Desk::back);
        Desk d = made(twice.andThen(x -> x.oneWay(0, 6, true)));
        is("19: one way at 6, from 9 to 6", d.back(), 1);
        is("19: home", d.told(0, 0), 6);
        is("19: one way at 6, where it is now", d.back(), NONE);
        is("19: home stays", d.told(0, 0) * 10 + d.count(4), 61);
        is("19: not any more", d.oneWay(0, 6, false), true);
        is("19: from 6 to 5", d.back(), 0);
    }

    private static void backWouldNotFit() {
        Consumer<Desk> needing = then(Edges::sent, d -> d.need(2, 5, 0, 6, 6));
        is("19: home fits now", made(needing).count(8), 1);
        none("19: home would not fit", needing, Desk::back);
        Consumer<Desk> brokenNow = then(Edges::sent, d -> d.need(2, 5, 0, 5, 5));
        is("19: home does not fit now", made(brokenNow).count(8), 0);
        is("19: but would", made(brokenNow).back(), 0);
        Consumer<Desk> ever = then(Edges::sent, d -> d.need(2, 5, 0, 9, 9));
        none("19: neither now nor then", ever, Desk::back);
        none("19: needs among what it brought", then(Edges::sent, d -> d.need(0, 5, 1, 6, 7)),
            Desk::back);
        Consumer<Desk> offeredIt = needing.andThen(d -> d.offer(0, 5, 1));
        none("19: an offer of the version that would come", offeredIt, Desk::back);
        is("19: tests are not asked", made(then(Edges::sent, d -> d.test(1))).back(), 0);
    }

    private static void backWouldNotFitAtTheEdge() {
        int[][] rows = {{4, 4, NONE}, {4, 5, 0}, {5, 5, 0}, {5, 6, 0}, {6, 6, NONE}};
        for (int[] row : rows) {
            Desk d = made(Edges::sent);
            d.need(2, 5, 0, row[0], row[1]);
            is("19: 0 comes to 5, needed at " + row[0] + " .. " + row[1], d.back(), row[2]);
            is("19: and is at home so", d.told(0, 0), row[2] == NONE ? 6 : 5);
        }
        int[][] versions = {{4, 0}, {5, NONE}, {6, 0}};
        for (int[] row : versions) {
            Desk d = made(Edges::sent);
            d.need(0, row[0], 2, 9, 9);
            is("19: 0 comes to 5, its need is of " + row[0], d.back(), row[1]);
        }
    }

    private static void backEmptyTrain() {
        Consumer<Desk> empty = parts(2).andThen(trains(1));
        is("19: it brought nothing", made(empty).back(), 0);
        none("19: it brought nothing, home does not fit", empty.andThen(d -> d.need(0, 5, 1, 6, 6)), Desk::back);
        is("19: it brought nothing, something is one way", made(empty.andThen(d -> d.oneWay(0, 5, true))).back(), 0);
        is("19: there was no part", made(trains(1)).back(), 0);
        Desk d = made(trains(1));
        d.part(5);
        is("19: a part came behind it", d.back(), 0);
        is("19: and stays", d.told(0, 0), 5);
    }

    private static void backLatestNotTakenBack() {
        Desk d = made(parts(1));
        for (int v = 6; v <= 8; v++) {
            d.offer(0, v, 1);
            d.cut();
            d.send();
        }
        is("19: the third", d.back(), 2);
        is("19: home", d.told(0, 0), 7);
        d.offer(0, 9, 1);
        d.cut();
        is("19: a fourth goes", d.send(), 3);
        is("19: the fourth", d.back(), 3);
        is("19: home", d.told(0, 0), 7);
        is("19: the second, the third is back already", d.back(), 1);
        is("19: home", d.told(0, 0), 6);
        is("19: the first", d.back(), 0);
        is("19: home", d.told(0, 0), 5);
        is("19: no more", d.back(), NONE);
        is("19: four, none is out", d.count(3) * 10 + d.count(4), 40);
    }

    private static void backOffersThatComeHome() {
        int[][] rows = {{4, 4, 2}, {5, NONE, 1}, {7, 7, 2}};
        for (int[] row : rows) {
            Desk d = made(Edges::sent);
            d.withdraw(2);
            d.offer(0, row[0], 3);
            d.offer(2, 6, 1);
            is("19: back", d.back(), 0);
            is("19: home is 5, its offer was " + row[0], d.told(0, 1), row[1]);
            is("19: its worth", d.told(0, 2), row[1] == NONE ? NONE : 3);
            is("19: another part's stays", d.told(2, 1), 6);
            is("19: offers", d.count(5), row[2]);
        }
    }

    private static void backAllTen() {
        Consumer<Desk> out = offered(10).andThen(Desk::cut).andThen(d -> {
            for (int p = 0; p < 10; p++) {
                d.offer(p, p % 2 == 0 ? 5 : 7, 1);
            }
            d.send();
        });
        is("19: all ten kept ones came", made(out).count(5), 10);
        none("19: the last of ten is one way", out.andThen(d -> d.oneWay(9, 6, true)), Desk::back);
        Desk d = made(out);
        is("19: all ten", d.back(), 0);
        for (int p = 0; p < 10; p++) {
            is("19: home of " + p, d.told(p, 0), 5);
            is("19: offer of " + p, d.told(p, 1), p % 2 == 0 ? NONE : 7);
        }
        is("19: none is out", d.count(4), 0);
    }

    private static void wasNoSuchTrain() {
        is("23: the first", made(Edges::sent).was(0, 0, false), 5);
        for (int t : new int[] {1, -1, 2, 59, 60, 61, Integer.MIN_VALUE, Integer.MAX_VALUE}) {
            gone("23: train " + t, Edges::sent, d -> d.was(t, 0, false));
            gone("23: train " + t + ", behind", Edges::sent, d -> d.was(t, 0, true));
        }
        gone("23: none was sent", Edges::behindTheCut, d -> d.was(0, 0, false));
        Consumer<Desk> sixty = parts(1).andThen(trains(60));
        is("23: the last of 60", made(sixty).was(59, 0, true), 5);
        gone("23: a 61st", sixty, d -> d.was(60, 0, true));
        is("23: one that is taken back", made(Edges::takenBack).was(0, 1, true), 7);
        is("23: ahead of one that is taken back", made(Edges::takenBack).was(0, 1, false), 5);
    }

    private static void wasPartNotThere() {
        Consumer<Desk> grown = parts(2).andThen(trains(1)).andThen(d -> d.part(9)).andThen(trains(1));
        is("23: the last that was there", made(grown).was(0, 1, false), 5);
        gone("23: it came behind the train", grown, d -> d.was(0, 2, false));
        gone("23: it came behind the train, behind it", grown, d -> d.was(0, 2, true));
        is("23: it was there for the next", made(grown).was(1, 2, false), 9);
        for (int p : NO_PARTS) {
            gone("23: part " + p, Edges::sent, d -> d.was(0, p, false));
            gone("23: part " + p + ", behind", Edges::sent, d -> d.was(0, p, true));
        }
        gone("23: a train of no parts", trains(1), d -> d.was(0, 0, true));
        gone("23: a train of no parts, one came", trains(1).andThen(d -> d.part(5)), d -> d.was(0, 0, true));
        Consumer<Desk> ten = offered(10).andThen(trains(1));
        is("23: the last of ten", made(ten).was(0, 9, true), 6);
        gone("23: an eleventh", ten, d -> d.was(0, 10, true));
        Desk d = made(Edges::sent);
        is("23: not brought, ahead and behind", d.was(0, 2, false) * 10 + d.was(0, 2, true), 55);
    }

    private static void broughtNoSuchTrain() {
        is("24: the first", made(Edges::sent).brought(0), 3);
        for (int t : new int[] {1, -1, 2, 59, 60, 61, Integer.MIN_VALUE, Integer.MAX_VALUE}) {
            none("24: train " + t, Edges::sent, d -> d.brought(t));
        }
        none("24: none was sent", Edges::behindTheCut, d -> d.brought(0));
        Consumer<Desk> sixty = parts(1).andThen(trains(60));
        is("24: the last of 60", made(sixty).brought(59), 0);
        none("24: a 61st", sixty, d -> d.brought(60));
        is("24: one that is taken back", made(Edges::takenBack).brought(0), 3);
    }

    private static void broughtAllOrNothing() {
        is("24: nothing", made(parts(10).andThen(trains(1))).brought(0), 0);
        is("24: all ten", made(offered(10).andThen(trains(1))).brought(0), 1023);
        Desk d = made(Edges::emptyCut);
        d.fix(2, 6, 1);
        d.send();
        is("24: one that boarded late", d.brought(0), 4);
    }
}
