import java.util.function.Consumer;

/** Promises 20, 21, 22 and 25 and the 512 calls, sentence by sentence: on each edge, within it and beyond it. */
public final class AskEdgesTest extends Edges {
    public static void main(String[] args) {
        blameNoSuchParts();
        runsNoSuchParts();
        blameNotRed();
        blameOnePart();
        blameTwoParts();
        blameFirstPiecesLonger();
        blameOneLessButTwoAtLeast();
        blameTwiceAtMostThatNumber();
        blameNeedsAndOffersNotAsked();
        runsAskedAgain();
        toldNoSuchPart();
        toldOthers();
        toldNoOffer();
        countOthers();
        countAtTheLimits();
        countNotTakenBack();
        countCutAndHome();
        all512Calls();
        DUE.end("AskEdgesTest");
    }

    private static Consumer<Desk> tested(int parts, int... sets) {
        return parts(parts).andThen(d -> {
            for (int set : sets) {
                d.test(set);
            }
        });
    }

    private static void blamed(String told, Consumer<Desk> making, int set, int least, int runs) {
        unchanged("20: " + told, making, d -> d.blame(set), least);
        unchanged("21: " + told, making, d -> d.runs(set), runs);
    }

    private static void blameNoSuchParts() {
        is("20: all of ten", made(tested(10, 512)).blame(1023), 512);
        none("20: an eleventh", tested(10, 512), d -> d.blame(1024));
        none("20: an eleventh among others", tested(10, 512), d -> d.blame(2047));
        for (int set : NO_SETS) {
            neverAny("20: set " + set, d -> d.blame(set));
            none("20: set " + set + " with reds", tested(3, 1, 2, 4), d -> d.blame(set));
        }
        none("20: where there are none", parts(0), d -> d.blame(1));
    }

    private static void runsNoSuchParts() {
        is("21: all of ten", made(tested(10, 512)).runs(1023), 4);
        none("21: an eleventh", tested(10, 512), d -> d.runs(1024));
        none("21: an eleventh among others", tested(10, 512), d -> d.runs(2047));
        for (int set : NO_SETS) {
            neverAny("21: set " + set, d -> d.runs(set));
            none("21: set " + set + " with reds", tested(3, 1, 2, 4), d -> d.runs(set));
        }
        none("21: where there are none", parts(0), d -> d.runs(1));
    }

    private static void blameNotRed() {
        blamed("nothing of nothing", parts(0), 0, 0, 1);
        blamed("nothing", tested(3, 1), 0, 0, 1);
        blamed("no tests", parts(10), 1023, 0, 1);
        blamed("all but one of a test", tested(3, 7), 6, 0, 1);
        blamed("all of it", tested(3, 6), 6, 6, 3);
    }

    private static void blameOnePart() {
        blamed("one part is over at once", tested(3, 2), 2, 2, 1);
        blamed("the last of ten", tested(10, 512), 512, 512, 1);
        blamed("one part that is not red", tested(3, 2), 4, 0, 1);
        blamed("red by two tests", tested(3, 2, 2), 2, 2, 1);
    }

    private static void blameTwoParts() {
        // Without the first: red.
        blamed("the second of two", tested(2, 2), 3, 2, 2);
        // Without the first: not; without the second: red.
        blamed("the first of two", tested(2, 1), 3, 1, 3);
        // Neither: n is 2, as many as there are.
        blamed("both of two", tested(2, 3), 3, 3, 3);
        blamed("either of two", tested(2, 1, 2), 3, 2, 2);
        blamed("two that lie apart", tested(10, 513), 513, 513, 3);
    }

    private static void blameFirstPiecesLonger() {
        // {0 1} {2}: without the first piece it is red at once.
        blamed("three in two pieces", tested(3, 4), 7, 4, 2);
        // {0 1 2} {3 4} no, no; {0 1} {2} {3} {4}: without the first red; {2} {3} {4} no, no, no.
        blamed("five in four pieces", tested(5, 28), 31, 28, 1 + 2 + 1 + 3);
        // {0..4} {5..9} no, no; {0 1 2} {3 4 5} {6 7} {8 9}: without the second red, n is 3;
        // {0 1 2} {6 7} {8 9} no, no, no; n is 6: {0 1} {2} {6} {7} {8} {9}, all no; n is 7, all no.
        blamed("ten in four pieces", tested(10, 967), 1023, 967, 1 + 2 + 2 + 3 + 6 + 7);
    }

    private static void blameOneLessButTwoAtLeast() {
        // {0 1} {2 3}: no, red; {0} {1}: no, red.
        blamed("two stays two", tested(4, 1), 15, 1, 5);
        // {0 1} {2 3}: no, no; n is 4: no, red; n is 3: {0} {2} {3}: no, no, red; n is 2: no, no.
        blamed("four, three, two", tested(4, 5), 15, 5, 1 + 2 + 2 + 3 + 2);
        // {0 1} {2}: no, red; n is 2: no, no.
        blamed("two of three", tested(3, 3), 7, 3, 5);
    }

    private static void blameTwiceAtMostThatNumber() {
        // n is 2, then 3 and not 4.
        blamed("all of three", tested(3, 7), 7, 7, 1 + 2 + 3);
        blamed("all of four", tested(4, 15), 15, 15, 1 + 2 + 4);
        // n is 2, 4, then 5 and not 8.
        blamed("all of five", tested(5, 31), 31, 31, 1 + 2 + 4 + 5);
        blamed("all of eight", tested(8, 255), 255, 255, 1 + 2 + 4 + 8);
        blamed("all of nine", tested(9, 511), 511, 511, 1 + 2 + 4 + 8 + 9);
        // n is 2, 4, 8, then 10 and not 16.
        blamed("all of ten", tested(10, 1023), 1023, 1023, 1 + 2 + 4 + 8 + 10);
    }

    private static void blameNeedsAndOffersNotAsked() {
        Consumer<Desk> broken = tested(3, 3).andThen(d -> d.need(0, 5, 1, 9, 9));
        blamed("home does not fit, no offers", broken, 7, 3, 5);
        blamed("behind a cut", Edges::behindTheCut, 7, 4, 2);
        blamed("behind a train", Edges::sent, 7, 4, 2);
    }

    private static void runsAskedAgain() {
        Desk d = made(tested(3, 3));
        is("21: asked once", d.runs(7), 5);
        is("21: asked again", d.runs(7), 5);
        is("21: of nothing", d.runs(0), 1);
        is("20: of all", d.blame(7), 3);
        is("21: behind a blame", d.runs(7), 5);
        is("21: refused", d.runs(8), NONE);
        is("21: behind a refused one", d.runs(3), 3);
    }

    private static void toldNoSuchPart() {
        is("22: the first", made(parts(3)).told(0, 0), 5);
        is("22: the last", made(parts(3)).told(2, 0), 5);
        is("22: the last of ten", made(parts(10)).told(9, 0), 5);
        for (int what = 0; what <= 4; what++) {
            int asked = what;
            none("22: an eleventh", offered(10), d -> d.told(10, asked));
            for (int p : NO_PARTS) {
                none("22: part " + p, Edges::behindTheCut, d -> d.told(p, asked));
                none("22: part " + p, Edges::sent, d -> d.told(p, asked));
            }
        }
    }

    private static void toldOthers() {
        Desk d = made(Edges::behindTheCut);
        int[] due = {5, 6, 10, 9, 3};
        for (int what = 0; what < due.length; what++) {
            is("22: what " + what, d.told(0, what), due[what]);
        }
        for (int what : new int[] {5, -1, 6, Integer.MIN_VALUE, Integer.MAX_VALUE}) {
            neverAny("22: what " + what, x -> x.told(0, what));
        }
    }

    private static void toldNoOffer() {
        Desk d = made(Edges::behindTheCut);
        is("22: no offer", d.told(2, 1), NONE);
        is("22: no worth", d.told(2, 2), NONE);
        is("22: none kept", d.told(1, 3), NONE);
        is("22: no kept worth", d.told(1, 4), NONE);
        Desk zero = made(parts(1));
        zero.offer(0, 0, 1);
        is("22: an offer of 0 is one", zero.told(0, 1), 0);
        zero.cut();
        zero.send();
        is("22: home is 0", zero.told(0, 0), 0);
        is("22: no offer is not 0", zero.told(0, 1), NONE);
        zero.cut();
        zero.offer(0, 1000, 1000);
        is("22: kept", zero.told(0, 3), 1000);
        is("22: its worth", zero.told(0, 4), 1000);
    }

    private static void countOthers() {
        for (int what : new int[] {9, -1, 10, Integer.MIN_VALUE, Integer.MAX_VALUE}) {
            neverAny("25: what " + what, d -> d.count(what));
        }
        int[] due = {3, 1, 1, 1, 1, 2, 1, 0, 1};
        Desk d = made(Edges::sent);
        for (int what = 0; what < due.length; what++) {
            is("25: what " + what, d.count(what), due[what]);
        }
    }

    private static void countAtTheLimits() {
        Desk d = made(offered(10));
        for (int n = 0; n < 31; n++) {
            d.need(0, 9, 1, 0, 0);
        }
        for (int t = 0; t < 13; t++) {
            d.test(1023);
        }
        for (int v = 0; v < 61; v++) {
            d.oneWay(0, v, true);
        }
        is("25: ten parts", d.count(0), 10);
        is("25: 30 needs", d.count(1), 30);
        is("25: twelve tests", d.count(2), 12);
        is("25: ten offers", d.count(5), 10);
        is("25: 60 one ways", d.count(6), 60);
        Desk out = made(trains(60));
        out.cut();
        out.send();
        is("25: 60 trains", out.count(3), 60);
        is("25: all are out", out.count(4), 60);
        out.giveUp();
        out.back();
        is("25: one is not", out.count(4), 59);
        is("25: 60 still", out.count(3), 60);
    }

    /** Those taken back may stand between those that are out. */
    private static void countNotTakenBack() {
        int[][] rows = {{1, 1}, {1, 0}, {2, 1}, {3, 2}, {3, 1}, {4, 2}};
        Desk d = made(parts(1));
        for (int i = 0; i < rows.length; i++) {
            if (i == 1 || i == 4) {
                d.back();
            } else {
                trains(1).accept(d);
            }
            is("25: trains, step " + i, d.count(3), rows[i][0]);
            is("25: those not taken back, step " + i, d.count(4), rows[i][1]);
        }
    }

    private static void countCutAndHome() {
        is("25: no cut", made(Edges::open).count(7), 0);
        is("25: a cut that chose nothing", made(Edges::emptyCut).count(7), 1);
        is("25: without those kept", made(Edges::behindTheCut).count(5), 2);
        int[][] rows = {{4, 4, 0}, {4, 5, 1}, {5, 6, 1}, {6, 6, 0}};
        for (int[] row : rows) {
            Desk d = made(parts(2));
            d.need(0, 5, 1, row[0], row[1]);
            is("25: home, 5 needed at " + row[0] + " .. " + row[1], d.count(8), row[2]);
        }
        Desk offered = made(parts(2));
        offered.need(0, 5, 1, 6, 6);
        offered.offer(1, 6, 1);
        is("25: an offer is not home", offered.count(8), 0);
        offered.cut();
        is("25: nor is what is chosen", offered.count(8), 0);
    }

    /** The 512th call is the last that is promised: it is answered like the first. */
    private static void all512Calls() {
        Desk d = made(parts(2));
        for (int t = 0; t < 60; t++) {
            is("512: offer", d.offer(0, 6 + t, 1000), true);
            is("512: cut", d.cut(), 1);
            is("512: train", d.send(), t);
            is("512: home", d.told(0, 0), 6 + t);
        }
        for (int t = 59; t >= 0; t--) {
            is("512: back", d.back(), t);
            is("512: home again", d.told(0, 0), 5 + t);
            is("512: as it was", d.was(t, 0, true), 6 + t);
        }
        while (d.calls() < Desk.MOST_CALLS - 1) {
            is("512: trains", d.count(3), 60);
        }
        is("512: the last", d.part(7), 2);
        is("512: calls", d.calls(), 512);
    }
}
