import java.util.function.Consumer;

/** Promises 9 to 15 and 17, sentence by sentence: the case on each edge, just within it and just beyond it. */
public final class CutEdgesTest extends Edges {
    public static void main(String[] args) {
        cutIsAtHand();
        cutNoneThatGoes();
        cutNoneThatGoesIsNoCut();
        cutOffersAlone();
        cutGreatestWorth();
        cutLowestPart();
        cutAllTen();
        chosenNoCut();
        worthNoCut();
        whyNoCut();
        whyNoSuchPart();
        whyNoOffer();
        whyItIsChosen();
        whyFirstNeed();
        whyFirstTest();
        whyNothing();
        whyNotByWhatIsKept();
        fixNoCut();
        fixNoSuchPart();
        fixOutOfBounds();
        fixItIsChosen();
        fixVersionAtHome();
        fixDoesNotBoard();
        fixBoards();
        fixOfOneThatIsLeft();
        fixBoardsWithoutAnOrder();
        leaveNoCut();
        leaveNoSuchPart();
        leaveOutOfBounds();
        leaveItIsChosen();
        leaveVersionAtHome();
        leaveNoSuchSet();
        leaveNobody();
        leaveWho();
        leaveOfOneThatIsLeft();
        leaveChosenPartsAlone();
        orderWithout();
        orderNoCut();
        orderNone();
        orderHomeMustFit();
        orderFirstByNumbers();
        giveUpNone();
        giveUpKeptCome();
        giveUpKeptOfHome();
        DUE.end("CutEdgesTest");
    }

    /** Part 0 is left: it is red with 1, which is worth more; 2 has no offer. */
    private static void leftBehind(Desk d) {
        parts(3).accept(d);
        d.offer(0, 6, 10);
        d.offer(1, 6, 11);
        d.test(3);
        d.cut();
    }

    /** Home does not fit; with part 1 it does. */
    private static void mended(Desk d) {
        parts(3).accept(d);
        d.need(0, 5, 1, 6, 6);
        d.offer(1, 6, 10);
        d.cut();
    }

    /** Part 0 is left at 6, worth 10, as it needs 1 at 9; at 7 nothing is in its way. Part 1 is chosen, worth 20. */
    private static void leftByANeed(Desk d) {
        parts(2).accept(d);
        d.offer(0, 6, 10);
        d.offer(1, 6, 20);
        d.need(0, 8, 1, 5, 5);
        d.need(0, 6, 1, 9, 9);
        d.cut();
    }

    private static void cutIsAtHand() {
        is("9: none is at hand", made(Edges::open).cut(), 3);
        none("9: it is", Edges::behindTheCut, Desk::cut);
        none("9: it is, and chose nothing", Edges::emptyCut, Desk::cut);
        none("9: it is, of no parts", parts(0).andThen(Desk::cut), Desk::cut);
        none("9: it is, without an order", Edges::noOrder, Desk::cut);
        none("9: it is, for the next train", Edges::nextCut, Desk::cut);
        is("9: it was sent", made(Edges::sent).cut(), 1);
        Desk d = made(Edges::noOrder);
        d.giveUp();
        is("9: it was given up", d.cut(), 3);
    }

    private static void cutNoneThatGoes() {
        is("9: nothing goes where home fits", made(parts(2)).cut(), 0);
        is("9: nothing goes where nothing is", made(parts(0)).cut(), 0);
        Consumer<Desk> broken = parts(2).andThen(d -> d.need(0, 5, 1, 6, 6));
        none("9: home does not fit", broken, Desk::cut);
        Consumer<Desk> tooFar = broken.andThen(d -> d.offer(1, 7, 1));
        none("9: nor does what is offered", tooFar, Desk::cut);
        Consumer<Desk> mending = broken.andThen(d -> d.offer(1, 6, 1));
        is("9: one fits", made(mending).cut(), 2);
        none("9: it is red", mending.andThen(d -> d.test(2)), Desk::cut);
        is("9: it is red with another alone", made(mending.andThen(d -> d.test(3))).cut(), 2);
        Consumer<Desk> second = mending.andThen(d -> d.need(1, 6, 0, 6, 6));
        none("9: it needs another", second, Desk::cut);
        is("9: that is offered", made(second.andThen(d -> d.offer(0, 6, 1))).cut(), 3);
        Consumer<Desk> away = second.andThen(d -> d.offer(0, 6, 1)).andThen(d -> d.test(3));
        is("9: they are red, but 0 alone needs nothing away from home", made(away).cut(), 1);
        none("9: it is red too", away.andThen(d -> d.test(1)), Desk::cut);
    }

    private static void cutNoneThatGoesIsNoCut() {
        Desk d = made(parts(2).andThen(x -> x.need(0, 5, 1, 6, 6)));
        is("9: none", d.cut(), NONE);
        is("9: no cut", d.count(7), 0);
        is("9: nothing is chosen", d.chosen(), NONE);
        is("9: nor given up", d.giveUp(), false);
        is("9: nor sent", d.send(), NONE);
        is("9: offers are of this train", d.offer(1, 6, 1), true);
        is("9: and not kept", d.told(1, 1) * 10 + d.told(1, 3), 59);
        is("9: then there is one", d.cut(), 2);
    }

    private static void cutOffersAlone() {
        is("9: 2 has no offer", made(Edges::open).cut(), 3);
        Desk d = made(offered(3));
        d.withdraw(1);
        is("9: 1 has none any more", d.cut(), 5);
        is("9: nobody has one", made(parts(10)).cut(), 0);
    }

    private static void cutGreatestWorth() {
        int[][] rows = {{9, 6}, {10, 1}, {11, 1}};
        for (int[] row : rows) {
            Desk d = made(offered(3));
            d.offer(0, 6, row[0]);
            d.offer(1, 6, 4);
            d.offer(2, 6, 6);
            d.test(3);
            d.test(5);
            is("9: " + row[0] + " of 0 against 10 of 1 and 2", d.cut(), row[1]);
        }
        Desk least = made(parts(1));
        least.offer(0, 6, 1);
        is("9: 1 against nothing", least.cut(), 1);
        Desk one = made(offered(2));
        one.offer(0, 6, 999);
        one.offer(1, 6, 1000);
        one.test(3);
        is("9: 1000 against 999", one.cut(), 2);
    }

    private static void cutLowestPart() {
        Desk ends = made(offered(10));
        for (int p = 1; p < 10; p++) {
            ends.test(1 | 1 << p);
        }
        ends.offer(0, 6, 90);
        is("9: 0 against nine that are worth as much", ends.cut(), 1);
        Desk last = made(offered(10));
        last.test(768);
        is("9: they differ in 8 and 9", last.cut(), 511);
        Desk middle = made(offered(4));
        middle.test(6);
        middle.test(12);
        middle.test(9);
        is("9: of {0 1}, {0 2}, {1 3} the one with 0 and 1", middle.cut(), 3);
        Desk higher = made(offered(4));
        for (int pair : new int[] {3, 5, 10, 12}) {
            higher.test(pair);
        }
        is("9: {0 3} against {1 2}, whose number is lower", higher.cut(), 9);
        Desk more = made(offered(4));
        more.offer(1, 6, 5);
        more.offer(2, 6, 5);
        more.test(10);
        more.test(12);
        is("9: {0 1 2} against {0 3}", more.cut(), 7);
    }

    private static void cutAllTen() {
        Desk d = made(offered(10));
        is("9: all ten", d.cut(), 1023);
        Desk worthy = made(parts(10));
        for (int p = 0; p < 10; p++) {
            worthy.offer(p, 1000, 1000);
        }
        is("9: all ten of the greatest worth", worthy.cut(), 1023);
        is("11: their sum", worthy.worth(), 10000);
        is("9: ten parts without offers", made(parts(10)).cut(), 0);
    }

    private static void chosenNoCut() {
        noneWithoutACut("10: no cut:", Desk::chosen);
        is("10: a cut", made(Edges::behindTheCut).chosen(), 3);
        is("10: a cut that chose nothing", made(Edges::emptyCut).chosen(), 0);
        is("10: a cut without an order", made(Edges::noOrder).chosen(), 3);
    }

    private static void worthNoCut() {
        noneWithoutACut("11: no cut:", Desk::worth);
        is("11: a cut", made(Edges::behindTheCut).worth(), 30);
        is("11: a cut that chose nothing", made(Edges::emptyCut).worth(), 0);
        Desk d = made(parts(2));
        d.offer(1, 6, 1);
        d.cut();
        is("11: the least", d.worth(), 1);
    }

    private static void whyNoCut() {
        noneWithoutACut("12: no cut:", d -> d.why(0));
        noneWithoutACut("12: no cut:", d -> d.why(2));
        is("12: a cut", made(CutEdgesTest::leftBehind).why(0), 200);
    }

    private static void whyNoSuchPart() {
        is("12: the last part", made(Edges::noOrder).why(2), 200);
        for (int p : NO_PARTS) {
            neverAny("12: part " + p, d -> d.why(p));
            none("12: part " + p, CutEdgesTest::leftBehind, d -> d.why(p));
        }
        Consumer<Desk> ten = offered(10).andThen(d -> d.test(512)).andThen(Desk::cut);
        is("12: the last of ten", made(ten).why(9), 200);
        none("12: an eleventh", ten, d -> d.why(10));
    }

    private static void whyNoOffer() {
        none("12: no offer", CutEdgesTest::leftBehind, d -> d.why(2));
        none("12: a kept one alone", Edges::behindTheCut, d -> d.why(2));
        none("12: a fix that did not board", x -> {
            behindTheCut(x);
            x.fix(2, 6, 1);
        }, d -> d.why(2));
        is("12: an offer", made(Edges::nextCut).why(2), 200);
    }

    private static void whyItIsChosen() {
        none("12: chosen", CutEdgesTest::leftBehind, d -> d.why(1));
        is("12: not chosen", made(CutEdgesTest::leftBehind).why(0), 200);
        none("12: chosen, without an order", Edges::noOrder, d -> d.why(0));
        none("12: chosen by a fix", x -> {
            emptyCut(x);
            x.fix(2, 6, 1);
        }, d -> d.why(2));
    }

    private static void whyFirstNeed() {
        int[][] rows = {{0, 100}, {1, 101}, {28, 128}, {29, 129}};
        for (int[] row : rows) {
            Desk d = made(offered(2));
            d.test(1);
            for (int n = 0; n < 30; n++) {
                d.need(0, n < row[0] ? 9 : 6, 1, 9, 9);
            }
            d.cut();
            is("12: need " + row[0] + " is the first that does not hold", d.why(0), row[1]);
        }
        Desk other = made(offered(2));
        other.need(1, 6, 0, 5, 5);
        other.offer(1, 6, 11);
        other.cut();
        is("12: a need of a chosen part", other.why(0), 100);
    }

    private static void whyFirstTest() {
        int[][] rows = {{0, 200}, {1, 201}, {10, 210}, {11, 211}};
        for (int[] row : rows) {
            Desk d = made(offered(3));
            for (int t = 0; t < 12; t++) {
                d.test(t < row[0] ? 6 : 1);
            }
            d.cut();
            is("12: test " + row[0] + " is the first that is red", d.why(0), row[1]);
        }
    }

    private static void whyNothing() {
        Consumer<Desk> alone = x -> {
            parts(2).accept(x);
            x.offer(0, 6, 10);
            x.need(0, 6, 1, 6, 6);
            x.cut();
        };
        is("12: it needs 1", made(alone).why(0), 100);
        Desk d = made(alone);
        is("12: 1 boards late", d.fix(1, 6, 1), 1);
        is("12: nothing is in the way", d.why(0), 0);
        is("13: so it boards as it was offered", d.fix(0, 6, 10), 1);
        is("13: both are chosen", d.chosen() * 100 + d.worth(), 311);
        Desk far = made(alone);
        is("12: 1 boards late, beyond what it needs", far.fix(1, 7, 1), 1);
        is("12: it is in the way", far.why(0), 100);
    }

    /** What is kept is for the next train: WHY is of the offer that was left. */
    private static void whyNotByWhatIsKept() {
        is("12: left at 6", made(CutEdgesTest::leftByANeed).why(0), 101);
        for (int v : new int[] {7, 8}) {
            Desk d = made(CutEdgesTest::leftByANeed);
            d.offer(0, v, 1);
            is("12: left at 6, kept at " + v, d.why(0), 101);
        }
        Desk chosen = made(CutEdgesTest::leftByANeed);
        chosen.offer(1, 9, 1);
        is("12: what it needs is kept for the next train", chosen.why(0), 101);
        chosen.giveUp();
        is("9: where both fit together", chosen.cut(), 3);
    }

    private static void fixNoCut() {
        noneWithoutACut("13: no cut:", d -> d.fix(2, 9, 1));
        is("13: a cut", made(Edges::emptyCut).fix(2, 9, 1), 1);
    }

    private static void fixNoSuchPart() {
        is("13: the first part", made(Edges::emptyCut).fix(0, 9, 1), 1);
        is("13: the last part", made(Edges::emptyCut).fix(2, 9, 1), 1);
        for (int p : NO_PARTS) {
            neverAny("13: part " + p, d -> d.fix(p, 9, 1));
        }
        Consumer<Desk> ten = parts(10).andThen(Desk::cut);
        is("13: the last of ten", made(ten).fix(9, 9, 1), 1);
        none("13: an eleventh", ten, d -> d.fix(10, 9, 1));
    }

    private static void fixOutOfBounds() {
        for (int v : new int[] {0, 1, 999, 1000}) {
            Desk d = made(Edges::emptyCut);
            is("13: version " + v, d.fix(2, v, 7), 1);
            is("13: told " + v, d.told(2, 1), v);
        }
        for (int w : new int[] {1, 2, 999, 1000}) {
            Desk d = made(Edges::emptyCut);
            is("13: worth " + w, d.fix(2, 9, w), 1);
            is("13: told worth " + w, d.told(2, 2), w);
            is("13: in the sum", d.worth(), w);
        }
        for (int v : NO_VERSIONS) {
            neverAny("13: version " + v, d -> d.fix(2, v, 1));
        }
        for (int w : NO_WORTHS) {
            neverAny("13: worth " + w, d -> d.fix(2, 9, w));
        }
    }

    private static void fixItIsChosen() {
        none("13: chosen", Edges::behindTheCut, d -> d.fix(0, 8, 1));
        none("13: chosen, its own version", Edges::behindTheCut, d -> d.fix(0, 6, 10));
        none("13: chosen, without an order", Edges::noOrder, d -> d.fix(1, 8, 1));
        none("13: chosen by a fix", x -> {
            emptyCut(x);
            x.fix(2, 6, 1);
        }, d -> d.fix(2, 7, 1));
        is("13: not chosen", made(CutEdgesTest::leftBehind).fix(2, 6, 1), 1);
    }

    private static void fixVersionAtHome() {
        is("13: just below home", made(Edges::emptyCut).fix(2, 4, 1), 1);
        none("13: home", Edges::emptyCut, d -> d.fix(2, 5, 1));
        is("13: just above home", made(Edges::emptyCut).fix(2, 6, 1), 1);
        none("13: home, of one that is left", CutEdgesTest::leftBehind, d -> d.fix(0, 5, 1));
        none("13: home, where one is kept", Edges::behindTheCut, d -> d.fix(2, 5, 1));
        none("13: home is what came", Edges::nextCut, d -> d.fix(1, 7, 1));
        is("13: home is no more what it was", made(Edges::nextCut).fix(1, 5, 1), 1);
    }

    private static void fixDoesNotBoard() {
        unchanged("13: red", Edges::behindTheCut, d -> d.fix(2, 6, 1000), 0);
        unchanged("13: red, one that is left", CutEdgesTest::leftBehind, d -> d.fix(0, 7, 1000), 0);
        unchanged("13: red, its own offer again", CutEdgesTest::leftBehind, d -> d.fix(0, 6, 10), 0);
        unchanged("13: red, without an order", Edges::noOrder, d -> d.fix(2, 7, 1), 0);
        Consumer<Desk> needing = x -> {
            parts(3).accept(x);
            x.offer(0, 7, 10);
            x.need(2, 8, 0, 8, 9);
            x.need(2, 9, 0, 6, 7);
            x.need(0, 7, 1, 4, 5);
            x.cut();
        };
        unchanged("13: the other is just below lo", needing, d -> d.fix(2, 8, 1), 0);
        is("13: the other is at hi", made(needing).fix(2, 9, 1), 1);
        is("13: no need is of this version", made(needing).fix(2, 7, 1), 1);
        unchanged("13: a chosen one needs it at hi at most", needing, d -> d.fix(1, 6, 1), 0);
        is("13: it is at lo", made(needing).fix(1, 4, 1), 1);
        unchanged("13: it is just below lo", needing, d -> d.fix(1, 3, 1), 0);
        Consumer<Desk> left = x -> {
            parts(2).accept(x);
            x.need(0, 6, 1, 6, 6);
            x.need(1, 6, 0, 6, 6);
            x.offer(0, 6, 1);
            x.cut();
        };
        unchanged("13: it needs one that is left, and would not bring it", left, d -> d.fix(1, 6, 1), 0);
    }

    private static void fixBoards() {
        Desk d = made(CutEdgesTest::leftBehind);
        d.offer(2, 8, 3);
        is("13: boards", d.fix(2, 7, 4), 1);
        is("13: is chosen", d.chosen(), 6);
        is("13: the sum", d.worth(), 15);
        is("13: its offer", d.told(2, 1) * 10 + d.told(2, 2), 74);
        is("13: the kept one stays", d.told(2, 3) * 10 + d.told(2, 4), 83);
        is("13: the order", d.order(0) * 10 + d.order(1), 12);
        is("13: no third", d.order(2), NONE);
        Desk all = made(parts(10).andThen(Desk::cut));
        for (int p = 0; p < 10; p++) {
            is("13: one by one", all.fix(p, 6, 1000), 1);
        }
        is("13: all ten", all.chosen(), 1023);
        is("13: their sum", all.worth(), 10000);
        is("13: the last", all.order(9), 9);
    }

    /** It gets another offer: the version and the worth of the fix are in the place of those that were left. */
    private static void fixOfOneThatIsLeft() {
        unchanged("13: left, at the version that was left", CutEdgesTest::leftByANeed, d -> d.fix(0, 6, 10), 0);
        unchanged("13: left, at another that needs", CutEdgesTest::leftByANeed, d -> d.fix(0, 8, 3), 0);
        Consumer<Desk> fixed = then(CutEdgesTest::leftByANeed, d -> d.fix(0, 7, 3));
        Desk d = made(fixed);
        is("13: left, and boards at another version", d.chosen(), 3);
        is("13: with the worth of the fix", d.worth(), 23);
        is("13: its offer is the fix", d.told(0, 1) * 10 + d.told(0, 2), 73);
        is("13: two offers still", d.count(5), 2);
        is("13: it will be at home at 7", d.offer(0, 7, 1), false);
        d.send();
        is("13: it is at home at 7", d.told(0, 0), 7);
        is("13: no offer of it is left", d.told(0, 1), NONE);
        Desk up = made(fixed);
        up.giveUp();
        is("13: given up, the fix is its offer still", up.told(0, 1) * 10 + up.told(0, 2), 73);
    }

    private static void fixBoardsWithoutAnOrder() {
        Desk home = made(CutEdgesTest::mended);
        is("13: home does not fit, so there is no order", home.fix(2, 6, 1), 1);
        is("13: it is chosen", home.chosen(), 6);
        is("13: there is none still", home.order(0), NONE);
        Desk ring = made(then(Edges::noOrder, d -> {
            d.giveUp();
            d.part(5);
            d.cut();
        }));
        is("13: a ring, so there is no order", ring.fix(3, 6, 1), 1);
        is("13: it is chosen", ring.chosen(), 11);
        is("13: the ring is there still", ring.order(0), NONE);
    }

    private static void leaveNoCut() {
        noneWithoutACut("14: no cut:", d -> d.leave(2, 9, 1));
        unchanged("14: a cut", Edges::emptyCut, d -> d.leave(2, 9, 1), 0);
    }

    private static void leaveNoSuchPart() {
        unchanged("14: the first part", Edges::emptyCut, d -> d.leave(0, 9, 1), 0);
        unchanged("14: the last part", Edges::emptyCut, d -> d.leave(2, 9, 1), 0);
        for (int p : NO_PARTS) {
            neverAny("14: part " + p, d -> d.leave(p, 9, 1));
        }
        Consumer<Desk> ten = parts(10).andThen(Desk::cut);
        unchanged("14: the last of ten", ten, d -> d.leave(9, 9, 1), 0);
        none("14: an eleventh", ten, d -> d.leave(10, 9, 1));
    }

    private static void leaveOutOfBounds() {
        for (int v : new int[] {0, 1, 999, 1000}) {
            unchanged("14: version " + v, Edges::emptyCut, d -> d.leave(2, v, 1), 0);
        }
        for (int w : new int[] {1, 2, 999, 1000}) {
            unchanged("14: worth " + w, Edges::emptyCut, d -> d.leave(2, 9, w), 0);
        }
        for (int v : NO_VERSIONS) {
            neverAny("14: version " + v, d -> d.leave(2, v, 1));
        }
        for (int w : NO_WORTHS) {
            neverAny("14: worth " + w, d -> d.leave(2, 9, w));
        }
    }

    private static void leaveItIsChosen() {
        none("14: chosen", Edges::behindTheCut, d -> d.leave(0, 8, 1));
        none("14: chosen, its own version", Edges::behindTheCut, d -> d.leave(0, 6, 10));
        none("14: chosen by a fix", x -> {
            emptyCut(x);
            x.fix(2, 6, 1);
        }, d -> d.leave(2, 7, 1));
        unchanged("14: not chosen", CutEdgesTest::leftBehind, d -> d.leave(0, 7, 1), 2);
    }

    private static void leaveVersionAtHome() {
        unchanged("14: just below home", Edges::emptyCut, d -> d.leave(2, 4, 1), 0);
        none("14: home", Edges::emptyCut, d -> d.leave(2, 5, 1));
        unchanged("14: just above home", Edges::emptyCut, d -> d.leave(2, 6, 1), 0);
        none("14: home, of one that is left", CutEdgesTest::leftBehind, d -> d.leave(0, 5, 1));
        none("14: home is what came", Edges::nextCut, d -> d.leave(1, 7, 1));
    }

    private static void leaveNoSuchSet() {
        none("14: red alone", Edges::behindTheCut, d -> d.leave(2, 6, 1000));
        Consumer<Desk> needing = x -> {
            offered(3).accept(x);
            x.part(5);
            x.need(3, 6, 2, 6, 6);
            x.need(3, 7, 2, 7, 7);
            x.test(4);
            x.cut();
        };
        none("14: it needs one that is left", needing, d -> d.leave(3, 6, 1000));
        none("14: it needs what nobody offers", needing, d -> d.leave(3, 7, 1));
        unchanged("14: it needs nobody", needing, d -> d.leave(3, 8, 1), 0);
        unchanged("14: home does not fit without a chosen one, which stays", CutEdgesTest::mended,
            d -> d.leave(2, 6, 1), 0);
        Consumer<Desk> against = x -> {
            parts(3).accept(x);
            x.need(0, 5, 1, 6, 6);
            x.offer(1, 6, 10);
            x.test(6);
            x.cut();
        };
        none("14: home does not fit without a chosen one, which would have to leave", against, d -> d.leave(2, 6, 1));
    }

    private static void leaveNobody() {
        unchanged("14: nobody", CutEdgesTest::leftBehind, d -> d.leave(2, 6, 1), 0);
        unchanged("14: nobody of nothing", Edges::emptyCut, d -> d.leave(1, 6, 1), 0);
        Consumer<Desk> nine = offered(9).andThen(d -> d.part(5)).andThen(Desk::cut);
        unchanged("14: nobody of nine", nine, d -> d.leave(9, 6, 1000), 0);
    }

    private static void leaveWho() {
        int[][] rows = {{9, 1}, {10, 6}, {11, 6}};
        for (int[] row : rows) {
            Consumer<Desk> worths = x -> {
                parts(4).accept(x);
                x.offer(0, 6, row[0]);
                x.offer(1, 6, 4);
                x.offer(2, 6, 6);
                x.test(11);
                x.test(13);
                x.cut();
            };
            unchanged("14: " + row[0] + " of 0 against 10 of 1 and 2", worths, d -> d.leave(3, 6, 1), row[1]);
        }
        Consumer<Desk> pairs = offered(4).andThen(d -> d.part(5)).andThen(x -> {
            for (int pair : new int[] {3, 5, 10, 12}) {
                x.test(16 | pair);
            }
            x.cut();
        });
        unchanged("14: {0 3} against {1 2}, whose number is lower", pairs, d -> d.leave(4, 6, 1), 6);
        Consumer<Desk> nine = offered(9).andThen(d -> d.part(5)).andThen(x -> {
            for (int p = 0; p < 9; p++) {
                x.test(512 | 1 << p);
            }
            x.cut();
        });
        unchanged("14: all nine", nine, d -> d.leave(9, 6, 1), 511);
        Consumer<Desk> late = then(CutEdgesTest::leftBehind, d -> d.fix(2, 6, 1));
        unchanged("14: one that boarded late stays", late, d -> d.leave(0, 7, 1), 2);
    }

    /** LEAVE is of the fix, not of the offer that was left. */
    private static void leaveOfOneThatIsLeft() {
        none("14: at the version that was left", CutEdgesTest::leftByANeed, d -> d.leave(0, 6, 1000));
        unchanged("14: at one that nothing is in the way of", CutEdgesTest::leftByANeed, d -> d.leave(0, 7, 1), 0);
        unchanged("14: at one that needs 1 at home", CutEdgesTest::leftByANeed, d -> d.leave(0, 8, 1), 2);
    }

    /** Part 3 is left: it is red with 0 and with 1, and worth less than both. */
    private static void leaveChosenPartsAlone() {
        Consumer<Desk> left = x -> {
            offered(2).accept(x);
            x.part(5);
            x.part(5);
            x.offer(3, 6, 15);
            x.test(7);
            x.test(9);
            x.test(10);
            x.need(2, 7, 3, 6, 6);
            x.cut();
        };
        is("14: 0 and 1 are chosen", made(left).chosen(), 3);
        unchanged("14: 1 leaves, though 3 would be worth more than 0", left, d -> d.leave(2, 6, 1), 2);
        none("14: it needs 3, which is left", left, d -> d.leave(2, 7, 1));
    }

    private static void orderWithout() {
        Desk d = made(Edges::behindTheCut);
        is("15: the first", d.order(0), 1);
        is("15: the last", d.order(1), 0);
        for (int i : new int[] {2, -1, 3, 9, 10, 11, Integer.MIN_VALUE, Integer.MAX_VALUE}) {
            none("15: without " + i, Edges::behindTheCut, x -> x.order(i));
        }
        none("15: nothing is chosen", Edges::emptyCut, x -> x.order(0));
        Consumer<Desk> ten = offered(10).andThen(Desk::cut);
        is("15: the tenth", made(ten).order(9), 9);
        none("15: an eleventh", ten, x -> x.order(10));
        Consumer<Desk> shorter = ten.andThen(x -> {
            x.giveUp();
            x.test(512);
            x.cut();
        });
        is("15: nine, where there were ten", made(shorter).order(8), 8);
        none("15: the tenth is no more", shorter, x -> x.order(9));
    }

    private static void orderNoCut() {
        noneWithoutACut("15: no cut:", d -> d.order(0));
        is("15: a cut", made(Edges::behindTheCut).order(0), 1);
    }

    private static void orderNone() {
        for (int i = -1; i <= 3; i++) {
            int asked = i;
            none("15: a ring of two", Edges::noOrder, d -> d.order(asked));
        }
        Consumer<Desk> ring = x -> {
            offered(4).accept(x);
            x.need(1, 6, 2, 6, 6);
            x.need(2, 6, 3, 6, 6);
            x.need(3, 6, 1, 6, 6);
            x.cut();
        };
        is("15: a ring of three", made(ring).chosen(), 15);
        none("15: one outside the ring could go", ring, d -> d.order(0));
        Consumer<Desk> open = x -> {
            offered(4).accept(x);
            x.need(1, 6, 2, 6, 6);
            x.need(2, 6, 3, 6, 6);
            x.need(3, 6, 1, 5, 6);
            x.cut();
        };
        Desk d = made(open);
        is("15: a ring that is open at one place",
            d.order(0) * 1000 + d.order(1) * 100 + d.order(2) * 10 + d.order(3), 321);
    }

    private static void orderHomeMustFit() {
        is("15: home does not fit, yet there is a cut", made(CutEdgesTest::mended).chosen(), 2);
        none("15: home does not fit", CutEdgesTest::mended, d -> d.order(0));
        Desk d = made(parts(3));
        d.need(0, 5, 1, 5, 6);
        d.offer(1, 6, 10);
        d.cut();
        is("15: home is at lo, it goes to hi", d.order(0), 1);
    }

    private static void orderFirstByNumbers() {
        Desk free = made(offered(3).andThen(Desk::cut));
        is("15: nobody needs any", free.order(0) * 100 + free.order(1) * 10 + free.order(2), 12);
        Desk last = made(offered(3));
        last.need(0, 6, 2, 6, 6);
        last.cut();
        is("15: 2 ahead of 0, 1 as soon as can be", last.order(0) * 100 + last.order(1) * 10 + last.order(2), 120);
        Desk home = made(offered(3));
        home.need(2, 5, 0, 5, 5);
        home.cut();
        is("15: 0 stays while 2 is at home", home.order(0) * 100 + home.order(1) * 10 + home.order(2), 120);
        Desk ten = made(offered(10));
        for (int p = 0; p < 9; p++) {
            ten.need(p, 6, p + 1, 6, 6);
        }
        ten.cut();
        for (int i = 0; i < 10; i++) {
            is("15: a chain of ten", ten.order(i), 9 - i);
        }
    }

    private static void giveUpNone() {
        refusedWithoutACut("17: no cut:", d -> d.giveUp() ? 1 : 0, 0);
        is("17: one", made(Edges::behindTheCut).giveUp(), true);
        is("17: one that chose nothing", made(Edges::emptyCut).giveUp(), true);
        is("17: one without an order", made(Edges::noOrder).giveUp(), true);
        is("17: one of no parts", made(parts(0).andThen(Desk::cut)).giveUp(), true);
        is("17: the 61st", made(trains(60).andThen(Desk::cut)).giveUp(), true);
    }

    private static void giveUpKeptCome() {
        Desk d = made(Edges::behindTheCut);
        d.giveUp();
        is("17: no cut", d.count(7), 0);
        is("17: home stays", d.told(0, 0) * 100 + d.told(1, 0) * 10 + d.told(2, 0), 555);
        is("17: one came in place of a chosen one", d.told(0, 1) * 10 + d.told(0, 2), 93);
        is("17: none came", d.told(1, 1) * 100 + d.told(1, 2), 720);
        is("17: one came where none was", d.told(2, 1) * 10 + d.told(2, 2), 84);
        is("17: three", d.count(5), 3);
        is("17: none is kept", d.told(0, 3) + d.told(0, 4) + d.told(2, 3) + d.told(2, 4), -4);
        is("17: no train", d.count(3), 0);
        Desk left = made(CutEdgesTest::leftBehind);
        left.offer(0, 7, 8);
        left.giveUp();
        is("17: one came in place of a left one", left.told(0, 1) * 10 + left.told(0, 2), 78);
        Desk fixed = made(Edges::emptyCut);
        fixed.fix(2, 6, 7);
        fixed.giveUp();
        is("17: a fix is an offer still", fixed.told(2, 1) * 10 + fixed.told(2, 2), 67);
    }

    private static void giveUpKeptOfHome() {
        int[][] rows = {{4, 41}, {5, 70}, {6, 61}};
        for (int[] row : rows) {
            Desk d = made(parts(1));
            d.offer(0, 7, 10);
            d.cut();
            is("17: kept " + row[0], d.offer(0, row[0], 1), true);
            d.giveUp();
            is("17: home is 5, kept is " + row[0], d.told(0, 1) * 10 + d.told(0, 2) % 10, row[1]);
            is("17: it is kept no more", d.told(0, 3), NONE);
        }
    }
}
