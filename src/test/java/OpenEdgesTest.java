import java.util.function.Consumer;

/** Promises 1 to 8, sentence by sentence: the case on each edge, just within it and just beyond it. */
public final class OpenEdgesTest extends Edges {
    public static void main(String[] args) {
        newObjectNoParts();
        newObjectAlone();
        partThereAreTen();
        partOutOfBounds();
        partACutIsAtHand();
        offerAnotherOne();
        offerNoSuchPart();
        offerVersionOutOfBounds();
        offerWorthOutOfBounds();
        offerVersionAtHome();
        offerVersionAtHomeBehindATrain();
        offerBehindTheCutChosen();
        offerBehindTheCutLeft();
        withdrawNoSuchPart();
        withdrawNone();
        withdrawBehindTheCut();
        needNoSuchParts();
        needAlike();
        needVersionOutOfBounds();
        needLoAndHiOutOfBounds();
        needLoAboveHi();
        needACutIsAtHand();
        needThereAre30();
        testNoSuchParts();
        testNone();
        testACutIsAtHand();
        testThereAreTwelve();
        fitsWithoutOffers();
        fitsNoneSuch();
        fitsAtLoAndHi();
        fitsAtItsVersion();
        redNone();
        redNoSuchParts();
        redFirst();
        fitsAndRedBehindTheCut();
        DUE.end("OpenEdgesTest");
    }

    private static void newObjectNoParts() {
        Desk d = new Desk();
        for (int what = 0; what <= 7; what++) {
            is("1: count(" + what + ") of a new object", d.count(what), 0);
        }
        is("1: nothing fits at home", d.count(8), 1);
        Consumer<Desk> fresh = parts(0);
        for (int what = 0; what <= 4; what++) {
            int asked = what;
            none("1: told of part 0", fresh, x -> x.told(0, asked));
        }
        no("1: offer", fresh, x -> x.offer(0, 1, 1));
        no("1: withdraw", fresh, x -> x.withdraw(0));
        no("1: oneWay", fresh, x -> x.oneWay(0, 1, true));
        no("1: giveUp", fresh, Desk::giveUp);
        none("1: need", fresh, x -> x.need(0, 1, 1, 1, 1));
        none("1: test", fresh, x -> x.test(1));
        none("1: fits of part 0", fresh, x -> x.fits(1));
        none("1: red of part 0", fresh, x -> x.red(1));
        none("1: blame of part 0", fresh, x -> x.blame(1));
        none("1: send", fresh, Desk::send);
        none("1: back", fresh, Desk::back);
        gone("1: was", fresh, x -> x.was(0, 0, true));
        is("1: the empty set fits", d.fits(0), 1);
        is("1: the first part is 0", d.part(5), 0);
    }

    private static void newObjectAlone() {
        Desk first = made(Edges::sent);
        is("1: a new object has nothing of another one", new Desk().seen().equals(made(parts(0)).seen()), true);
        is("1: which keeps its own", first.seen().equals(made(Edges::sent).seen()), true);
    }

    private static void partThereAreTen() {
        is("2: the ninth", made(parts(8)).part(5), 8);
        is("2: the tenth", made(parts(9)).part(5), 9);
        none("2: there are ten", parts(10), d -> d.part(5));
        none("2: there are ten, lowest version", parts(10), d -> d.part(0));
        none("2: there are ten, with offers", offered(10), d -> d.part(6));
        none("2: there are ten, behind a train", parts(10).andThen(trains(1)), d -> d.part(5));
    }

    private static void partOutOfBounds() {
        for (int v : new int[] {0, 1, 999, 1000}) {
            Desk d = made(parts(1));
            is("2: version " + v, d.part(v), 1);
            is("2: it is at home at " + v, d.told(1, 0), v);
        }
        for (int v : NO_VERSIONS) {
            neverAny("2: version " + v, d -> d.part(v));
            none("2: version " + v + " of the first", parts(0), d -> d.part(v));
        }
    }

    private static void partACutIsAtHand() {
        is("2: no cut yet", made(Edges::open).part(5), 3);
        none("2: a cut", Edges::behindTheCut, d -> d.part(5));
        none("2: a cut that chose nothing", Edges::emptyCut, d -> d.part(5));
        none("2: a cut without an order", Edges::noOrder, d -> d.part(5));
        none("2: a cut of no parts", parts(0).andThen(Desk::cut), d -> d.part(5));
        is("2: it is given up", made(then(Edges::behindTheCut, Desk::giveUp)).part(5), 3);
        is("2: it is sent", made(Edges::sent).part(5), 3);
        Desk refused = made(parts(2));
        refused.need(0, 5, 1, 6, 6);
        refused.cut();
        is("2: it was refused", refused.part(5), 2);
    }

    private static void offerAnotherOne() {
        Desk d = made(Edges::open);
        is("3: another one", d.offer(0, 4, 7), true);
        is("3: its version", d.told(0, 1), 4);
        is("3: its worth", d.told(0, 2), 7);
        is("3: it is one still", d.count(5), 2);
        is("3: the same again", d.offer(0, 4, 7), true);
        is("3: the same version, another worth", d.offer(0, 4, 8), true);
        is("3: that worth", d.told(0, 2), 8);
        Desk k = made(Edges::behindTheCut);
        is("3: another one that is kept", k.offer(0, 8, 1), true);
        is("3: its version is kept", k.told(0, 3), 8);
        is("3: its worth is kept", k.told(0, 4), 1);
        is("3: the train's stays", k.told(0, 1) * 100 + k.told(0, 2), 610);
    }

    private static void offerNoSuchPart() {
        is("3: the last part", made(parts(3)).offer(2, 6, 1), true);
        is("3: the first part", made(parts(3)).offer(0, 6, 1), true);
        is("3: the last of ten", made(parts(10)).offer(9, 6, 1), true);
        no("3: an eleventh", offered(10), d -> d.offer(10, 6, 1));
        for (int p : NO_PARTS) {
            never("3: part " + p, d -> d.offer(p, 6, 1));
        }
    }

    private static void offerVersionOutOfBounds() {
        for (int v : new int[] {0, 1, 999, 1000}) {
            Desk d = made(Edges::open);
            is("3: version " + v, d.offer(0, v, 1), true);
            is("3: told " + v, d.told(0, 1), v);
            Desk k = made(Edges::behindTheCut);
            is("3: version " + v + " is kept", k.offer(0, v, 1), true);
            is("3: told kept " + v, k.told(0, 3), v);
        }
        for (int v : NO_VERSIONS) {
            never("3: version " + v, d -> d.offer(0, v, 1));
            never("3: version " + v + " of a part without", d -> d.offer(2, v, 1));
        }
    }

    private static void offerWorthOutOfBounds() {
        for (int w : new int[] {1, 2, 999, 1000}) {
            Desk d = made(Edges::open);
            is("3: worth " + w, d.offer(2, 9, w), true);
            is("3: told worth " + w, d.told(2, 2), w);
            Desk k = made(Edges::behindTheCut);
            is("3: worth " + w + " is kept", k.offer(2, 9, w), true);
            is("3: told kept worth " + w, k.told(2, 4), w);
        }
        for (int w : NO_WORTHS) {
            never("3: worth " + w, d -> d.offer(0, 9, w));
            never("3: worth " + w + " of a part without", d -> d.offer(2, 9, w));
        }
    }

    private static void offerVersionAtHome() {
        is("3: just below home", made(parts(1)).offer(0, 4, 1), true);
        is("3: just above home", made(parts(1)).offer(0, 6, 1), true);
        no("3: home", parts(1), d -> d.offer(0, 5, 1));
        no("3: home, where there is an offer", Edges::open, d -> d.offer(1, 5, 30));
        no("3: home is 0", d -> d.part(0), d -> d.offer(0, 0, 1));
        no("3: home is 1000", d -> d.part(1000), d -> d.offer(0, 1000, 1));
        Desk other = made(parts(1));
        other.part(6);
        is("3: another part's home", other.offer(0, 6, 1), true);
    }

    private static void offerVersionAtHomeBehindATrain() {
        no("3: home is what came", Edges::sent, d -> d.offer(0, 6, 1));
        is("3: home is no more what it was", made(Edges::sent).offer(0, 5, 1), true);
        no("3: home is again what it was", Edges::takenBack, d -> d.offer(0, 5, 1));
        is("3: home is no more what had come", made(Edges::takenBack).offer(0, 6, 1), true);
    }

    private static void offerBehindTheCutChosen() {
        no("3: will be at home", Edges::behindTheCut, d -> d.offer(0, 6, 3));
        no("3: will be at home, none is kept", Edges::behindTheCut, d -> d.offer(1, 7, 3));
        is("3: just below what will be", made(Edges::behindTheCut).offer(1, 6, 3), true);
        is("3: just above what will be", made(Edges::behindTheCut).offer(1, 8, 3), true);
        is("3: at home, but will not be", made(Edges::behindTheCut).offer(1, 5, 3), true);
        Consumer<Desk> fixed = d -> {
            emptyCut(d);
            d.fix(1, 8, 3);
        };
        no("3: will be, by a fix", fixed, d -> d.offer(1, 8, 3));
        is("3: will not be, by a fix", made(fixed).offer(1, 5, 3), true);
    }

    private static void offerBehindTheCutLeft() {
        no("3: left, at home", Edges::noOrder, d -> d.offer(2, 5, 3));
        is("3: left, the version that it is offered at", made(Edges::noOrder).offer(2, 6, 3), true);
        is("3: left, just below home", made(Edges::noOrder).offer(2, 4, 3), true);
        no("3: no offer, at home", Edges::emptyCut, d -> d.offer(2, 5, 3));
        no("3: a kept one, at home", Edges::behindTheCut, d -> d.offer(2, 5, 3));
        is("3: a kept one, another", made(Edges::behindTheCut).offer(2, 6, 3), true);
    }

    private static void withdrawNoSuchPart() {
        is("4: the last of ten", made(offered(10)).withdraw(9), true);
        no("4: an eleventh", offered(10), d -> d.withdraw(10));
        for (int p : NO_PARTS) {
            never("4: part " + p, d -> d.withdraw(p));
        }
    }

    private static void withdrawNone() {
        no("4: never offered", Edges::open, d -> d.withdraw(2));
        Desk d = made(Edges::open);
        is("4: offered", d.withdraw(0), true);
        is("4: its version is gone", d.told(0, 1), NONE);
        is("4: its worth is gone", d.told(0, 2), NONE);
        is("4: one less", d.count(5), 1);
        no("4: taken back already", x -> {
            open(x);
            x.withdraw(0);
        }, x -> x.withdraw(0));
        no("4: it went out", Edges::sent, x -> x.withdraw(1));
    }

    private static void withdrawBehindTheCut() {
        no("4: the train's own, none is kept", Edges::behindTheCut, d -> d.withdraw(1));
        no("4: a left one, none is kept", Edges::noOrder, d -> d.withdraw(2));
        Desk d = made(Edges::behindTheCut);
        is("4: one that is kept", d.withdraw(0), true);
        is("4: it is kept no more", d.told(0, 3), NONE);
        is("4: nor its worth", d.told(0, 4), NONE);
        is("4: the train's own stays", d.told(0, 1) * 100 + d.told(0, 2), 610);
        is("4: the other kept one stays", d.told(2, 3), 8);
        is("4: it is kept no more", d.withdraw(0), false);
        d.giveUp();
        is("4: given up: the train's own can be", d.withdraw(0), true);
        is("4: given up: one that came", d.withdraw(2), true);
        is("4: sent: one that came", made(Edges::sent).withdraw(0), true);
    }

    private static void needNoSuchParts() {
        is("5: the last two parts", made(parts(3)).need(2, 5, 1, 5, 5), 0);
        is("5: the first and the last of ten", made(parts(10)).need(0, 5, 9, 5, 5), 0);
        none("5: an eleventh", parts(10), d -> d.need(10, 5, 0, 5, 5));
        none("5: another that is an eleventh", parts(10), d -> d.need(0, 5, 10, 5, 5));
        for (int p : NO_PARTS) {
            neverAny("5: part " + p, d -> d.need(p, 5, 0, 5, 5));
            neverAny("5: other " + p, d -> d.need(0, 5, p, 5, 5));
        }
    }

    private static void needAlike() {
        for (int p = 0; p < 3; p++) {
            int alike = p;
            neverAny("5: " + p + " needs itself", d -> d.need(alike, 5, alike, 5, 5));
            is("5: its neighbour", made(parts(3)).need(p, 5, (p + 1) % 3, 5, 5), 0);
        }
    }

    private static void needVersionOutOfBounds() {
        for (int v : new int[] {0, 1, 999, 1000}) {
            Desk d = made(parts(1));
            d.part(v);
            is("5: version " + v, d.need(1, v, 0, 6, 6), 0);
            is("5: it is asked at " + v, d.count(8), 0);
        }
        for (int v : NO_VERSIONS) {
            neverAny("5: version " + v, d -> d.need(0, v, 1, 5, 5));
        }
    }

    private static void needLoAndHiOutOfBounds() {
        is("5: all there are", made(parts(2)).need(0, 5, 1, 0, 1000), 0);
        is("5: just within", made(parts(2)).need(0, 5, 1, 1, 999), 0);
        for (int v : NO_VERSIONS) {
            neverAny("5: lo " + v, d -> d.need(0, 5, 1, v, 1000));
            neverAny("5: hi " + v, d -> d.need(0, 5, 1, 0, v));
            neverAny("5: lo and hi " + v, d -> d.need(0, 5, 1, v, v));
        }
        neverAny("5: lo and hi around all", d -> d.need(0, 5, 1, -1, 1001));
    }

    private static void needLoAboveHi() {
        for (int v : new int[] {0, 5, 1000}) {
            is("5: lo is hi, " + v, made(parts(2)).need(0, 5, 1, v, v), 0);
        }
        is("5: lo just below hi", made(parts(2)).need(0, 5, 1, 4, 5), 0);
        neverAny("5: lo just above hi", d -> d.need(0, 5, 1, 6, 5));
        neverAny("5: lo 1, hi 0", d -> d.need(0, 5, 1, 1, 0));
        neverAny("5: lo 1000, hi 999", d -> d.need(0, 5, 1, 1000, 999));
        neverAny("5: lo 1000, hi 0", d -> d.need(0, 5, 1, 1000, 0));
    }

    private static void needACutIsAtHand() {
        is("5: no cut yet", made(Edges::open).need(0, 5, 1, 5, 5), 1);
        none("5: a cut", Edges::behindTheCut, d -> d.need(0, 5, 1, 5, 5));
        none("5: a cut that chose nothing", Edges::emptyCut, d -> d.need(0, 5, 1, 5, 5));
        none("5: the next cut", Edges::nextCut, d -> d.need(0, 5, 1, 5, 5));
        is("5: it is sent", made(Edges::sent).need(0, 5, 1, 5, 5), 1);
        Desk d = made(Edges::behindTheCut);
        d.giveUp();
        is("5: it is given up", d.need(0, 5, 1, 5, 5), 1);
    }

    private static Consumer<Desk> needs(int many) {
        return d -> {
            for (int n = 0; n < many; n++) {
                d.need(0, 6, 1, 6, 6);
            }
        };
    }

    private static void needThereAre30() {
        is("5: the 29th", made(offered(3).andThen(needs(28))).need(2, 6, 1, 5, 5), 28);
        Desk d = made(offered(3).andThen(needs(29)));
        is("5: the 30th", d.need(2, 6, 1, 5, 5), 29);
        is("5: it is asked", d.fits(6), 0);
        is("5: there are 30", d.count(1), 30);
        Consumer<Desk> full = offered(3).andThen(needs(30));
        none("5: there are 30, one alike", full, x -> x.need(0, 6, 1, 6, 6));
        none("5: there are 30, one that holds", full, x -> x.need(2, 9, 1, 5, 5));
        none("5: there are 30, one that does not", full, x -> x.need(2, 5, 1, 6, 6));
        none("5: there are 30, behind a train", full.andThen(trains(1)), x -> x.need(2, 6, 1, 5, 5));
    }

    private static void testNoSuchParts() {
        is("6: all of three", made(parts(3)).test(7), 0);
        is("6: the last of three", made(parts(3)).test(4), 0);
        is("6: all of ten", made(parts(10)).test(1023), 0);
        is("6: the last of ten", made(parts(10)).test(512), 0);
        none("6: an eleventh", parts(10), d -> d.test(1024));
        none("6: an eleventh among others", parts(10), d -> d.test(2047));
        for (int set : NO_SETS) {
            neverAny("6: set " + set, d -> d.test(set));
        }
    }

    private static void testNone() {
        neverAny("6: no parts", d -> d.test(0));
        none("6: no parts where there are none", parts(0), d -> d.test(0));
        for (int p = 0; p < 3; p++) {
            is("6: one part", made(parts(3)).test(1 << p), 0);
        }
    }

    private static void testACutIsAtHand() {
        is("6: no cut yet", made(Edges::open).test(1), 1);
        none("6: a cut", Edges::behindTheCut, d -> d.test(1));
        none("6: a cut that chose nothing", Edges::emptyCut, d -> d.test(1));
        none("6: the next cut", Edges::nextCut, d -> d.test(1));
        is("6: it is sent", made(Edges::sent).test(1), 1);
        Desk d = made(Edges::behindTheCut);
        d.giveUp();
        is("6: it is given up", d.test(1), 1);
    }

    private static Consumer<Desk> tests(int many) {
        return d -> {
            for (int t = 0; t < many; t++) {
                d.test(3);
            }
        };
    }

    private static void testThereAreTwelve() {
        is("6: the eleventh", made(parts(3).andThen(tests(10))).test(4), 10);
        Desk d = made(parts(3).andThen(tests(11)));
        is("6: the twelfth", d.test(4), 11);
        is("6: it is red", d.red(4), 11);
        is("6: there are twelve", d.count(2), 12);
        Consumer<Desk> full = parts(3).andThen(tests(12));
        none("6: there are twelve, one alike", full, x -> x.test(3));
        none("6: there are twelve, another", full, x -> x.test(4));
        none("6: there are twelve, behind a train", full.andThen(trains(1)), x -> x.test(4));
    }

    private static void fitsWithoutOffers() {
        is("7: parts with offers alone", made(Edges::open).fits(3), 1);
        none("7: one without", Edges::open, d -> d.fits(4));
        none("7: one without among others", Edges::open, d -> d.fits(7));
        none("7: none has one", parts(3), d -> d.fits(1));
        is("7: nothing needs no offer", made(parts(3)).fits(0), 1);
        none("7: one that is kept is none", Edges::behindTheCut, d -> d.fits(4));
        none("7: it went out", Edges::sent, d -> d.fits(2));
        is("7: it came", made(Edges::sent).fits(4), 1);
        none("7: it was taken back", then(Edges::open, d -> d.withdraw(1)), d -> d.fits(2));
    }

    private static void fitsNoneSuch() {
        is("7: all of ten", made(offered(10)).fits(1023), 1);
        is("7: the last of ten", made(offered(10)).fits(512), 1);
        none("7: an eleventh", offered(10), d -> d.fits(1024));
        none("7: an eleventh among others", offered(10), d -> d.fits(2047));
        none("7: an eleventh alone in the sign", offered(10), d -> d.fits(Integer.MIN_VALUE));
        for (int set : NO_SETS) {
            neverAny("7: set " + set, d -> d.fits(set));
            none("7: all offered, set " + set, offered(3), d -> d.fits(set));
        }
        is("7: the empty set of no parts", made(parts(0)).fits(0), 1);
    }

    private static void fitsAtLoAndHi() {
        int[][] rows = {{6, 0}, {7, 1}, {8, 1}, {9, 1}, {10, 0}};
        for (int[] row : rows) {
            Desk d = made(offered(2));
            d.need(0, 6, 1, 7, 9);
            d.offer(1, row[0], 1);
            is("7: 7 .. 9, the other at " + row[0], d.fits(3), row[1]);
            is("7: the other alone at " + row[0], d.fits(2), 1);
        }
        int[][] ends = {{0, 0, 1}, {1, 1000, 0}, {0, 999, 1}, {1, 1, 0}, {0, 1000, 1}};
        for (int[] end : ends) {
            Desk low = made(d -> d.part(0));
            low.part(5);
            low.need(1, 5, 0, end[0], end[1]);
            is("7: " + end[0] + " .. " + end[1] + ", the other at 0", low.fits(0), end[2]);
        }
        Desk high = made(d -> d.part(1000));
        high.part(5);
        high.need(1, 5, 0, 0, 1000);
        is("7: 0 .. 1000, the other at 1000", high.fits(0), 1);
        high.need(1, 5, 0, 0, 999);
        is("7: 0 .. 999, the other at 1000", high.fits(0), 0);
    }

    private static void fitsAtItsVersion() {
        int[][] rows = {{6, 1}, {7, 0}, {8, 1}};
        for (int[] row : rows) {
            Desk d = made(parts(2));
            d.need(0, 7, 1, 6, 6);
            d.offer(0, row[0], 1);
            is("7: the need is of 7, it is at " + row[0], d.fits(1), row[1]);
            is("7: and at home at 5", d.fits(0), 1);
        }
        Desk home = made(offered(2));
        home.need(0, 5, 1, 6, 6);
        is("7: a need of the version at home", home.fits(0), 0);
        is("7: it boards, so it is not at it", home.fits(1), 1);
        is("7: the other boards, so it holds", home.fits(2), 1);
        is("7: both board", home.fits(3), 1);
    }

    private static void redNone() {
        none("8: no tests", parts(3), d -> d.red(7));
        Desk d = made(parts(3));
        d.test(6);
        is("8: all its parts", d.red(6), 0);
        is("8: all its parts and more", d.red(7), 0);
        is("8: all but one", d.red(4), NONE);
        is("8: all but the other", d.red(2), NONE);
        is("8: all but one and more", d.red(5), NONE);
        is("8: nothing", d.red(0), NONE);
        is("8: nothing where there is nothing", made(parts(0)).red(0), NONE);
        Desk one = made(parts(1));
        one.test(1);
        is("8: a test of one part", one.red(1), 0);
        is("8: without it", one.red(0), NONE);
    }

    private static void redNoSuchParts() {
        Consumer<Desk> ten = parts(10).andThen(d -> d.test(1));
        is("8: all of ten", made(ten).red(1023), 0);
        none("8: an eleventh among others", ten, d -> d.red(2047));
        Consumer<Desk> three = parts(3).andThen(d -> d.test(1)).andThen(d -> d.test(2)).andThen(d -> d.test(4));
        is("8: all of three", made(three).red(7), 0);
        for (int set : NO_SETS) {
            none("8: set " + set, three, d -> d.red(set));
            neverAny("8: set " + set, d -> d.red(set));
        }
    }

    private static void redFirst() {
        Desk d = made(parts(3).andThen(tests(11)));
        d.test(4);
        is("8: the first of twelve", d.red(3), 0);
        is("8: the last of twelve", d.red(4), 11);
        is("8: the first of both", d.red(7), 0);
    }

    /** No cut refuses them; kept offers are not asked. */
    private static void fitsAndRedBehindTheCut() {
        Desk d = made(Edges::behindTheCut);
        is("7: the chosen", d.fits(3), 1);
        is("7: 0 without 1", d.fits(1), 0);
        is("7: nothing", d.fits(0), 1);
        is("8: red", d.red(7), 0);
        is("8: not red", d.red(3), NONE);
        Desk left = made(Edges::nextCut);
        is("7: a left one", left.fits(4), 1);
        is("8: a left one", left.red(4), 0);
    }
}
