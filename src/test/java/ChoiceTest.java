/** Which allocation is the best one: the least whole first, and what is chosen where several have it. */
public final class ChoiceTest {
    private static final int NONE = CapitalReckoner.NONE;
    private static final Checks CHECKS = new Checks();

    public static void main(String[] args) {
        leastWholeBeforeLowNumbers();
        oneUnitLess();
        lowestNumberFirst();
        noneComesLast();
        pieceZeroChoosesFirst();
        pieceOneChoosesNext();
        everyPieceHasItsTurn();
        lowNumbersAgainstNoGain();
        onlyOfItsSet();
        onlyWhereThereIsOne();
        afterEachChange();
        triedAfterEachChange();
        triedBesideAPieceOfNoUse();
        worthByAnotherBest();
        worthOfNothing();
        CHECKS.end("ChoiceTest");
    }

    private static void due(String what, int got, int want) {
        CHECKS.due(what, got, want);
    }

    /** An exposure of the class 3 for each sum, all of the party 0. */
    private static CapitalReckoner exposures(int... drawn) {
        CapitalReckoner x = new CapitalReckoner();
        for (int sum : drawn) {
            x.addExposure(3, 0, sum, 0, 0, 1);
        }
        return x;
    }

    private static void piece(CapitalReckoner x, int amount, int uses) {
        x.addPiece(amount, 0, 0, 1, uses);
    }

    private static void given(String what, CapitalReckoner x, int... want) {
        for (int p = 0; p < want.length; p++) {
            due(what + ": the piece " + p, x.givenTo(p), want[p]);
        }
        due(what + ": the whole by trying", x.wholeByTrying(), x.whole());
    }

    private static void leastWholeBeforeLowNumbers() {
        CapitalReckoner x = exposures(10, 20, 100);
        piece(x, 60, 7);
        given("promise 15: the least whole", x, 2);
        due("promise 18: it", x.whole(), 10 + 20 + 40);
        // The piece 0 alone would rather go to the exposure 0; both together can't.
        CapitalReckoner y = exposures(100, 90);
        piece(y, 100, 3);
        piece(y, 100, 1);
        given("promise 15: for the good of all", y, 1, 0);
        due("promise 18: nothing stays", y.whole(), 0);
    }

    private static void oneUnitLess() {
        CapitalReckoner x = exposures(99, 100);
        piece(x, 100, 3);
        given("promise 15: 1 more to gain at the second", x, 1);
        CapitalReckoner y = exposures(100, 100);
        piece(y, 100, 3);
        given("promise 15: as much to gain at both", y, 0);
        CapitalReckoner z = exposures(100, 99);
        piece(z, 100, 3);
        given("promise 15: 1 more to gain at the first", z, 0);
    }

    private static void lowestNumberFirst() {
        CapitalReckoner x = exposures(5, 5, 5, 5, 5, 5, 5, 5);
        piece(x, 5, 0);
        for (int first = 0; first < 8; first++) {
            x.setPiece(0, 5, 255 << first & 255);
            given("promise 15: the lowest of the set from " + first, x, first);
        }
    }

    private static void noneComesLast() {
        CapitalReckoner x = new CapitalReckoner();
        for (int e = 0; e < 8; e++) {
            x.addExposure(0, 0, 5, 0, 0, 1);
        }
        piece(x, 5, 128);
        given("promise 15: the last exposure before none, though nothing is gained", x, 7);
        CapitalReckoner y = exposures(0);
        piece(y, 5, 1);
        given("promise 15: an exposure of nothing before none", y, 0);
        CapitalReckoner z = exposures(10);
        z.addPiece(5, 100, 0, 1, 1);
        given("promise 15: a piece of no value, too", z, 0);
    }

    private static void pieceZeroChoosesFirst() {
        CapitalReckoner x = exposures(100, 100);
        piece(x, 100, 3);
        piece(x, 100, 3);
        given("promise 15: the piece 0 has the lower one", x, 0, 1);
        CapitalReckoner y = exposures(100, 100);
        piece(y, 60, 3);
        piece(y, 100, 3);
        given("promise 15: though it is the smaller piece", y, 0, 1);
    }

    private static void pieceOneChoosesNext() {
        CapitalReckoner x = exposures(100, 100, 100);
        piece(x, 100, 4);
        piece(x, 100, 7);
        piece(x, 100, 7);
        given("promise 15: the piece 1 before the piece 2", x, 2, 0, 1);
        CapitalReckoner y = exposures(100, 100, 100);
        piece(y, 100, 6);
        piece(y, 100, 3);
        piece(y, 100, 7);
        given("promise 15: the piece 0 before the piece 1", y, 1, 0, 2);
    }

    private static void everyPieceHasItsTurn() {
        CapitalReckoner x = exposures(9, 9, 9, 9, 9);
        for (int p = 0; p < 5; p++) {
            piece(x, 9, 31);
        }
        given("promise 15: five pieces for five exposures", x, 0, 1, 2, 3, 4);
        CapitalReckoner y = exposures(9, 9);
        for (int p = 0; p < 5; p++) {
            piece(y, 9, 3);
        }
        given("promise 15: the piece 4 alone goes elsewhere", y, 0, 0, 0, 0, 1);
    }

    private static void lowNumbersAgainstNoGain() {
        CapitalReckoner x = exposures(9, 9);
        piece(x, 4, 3);
        piece(x, 5, 3);
        piece(x, 9, 3);
        given("promise 15: all that fits goes to the lower one", x, 0, 0, 1);
        CapitalReckoner y = exposures(9);
        piece(y, 9, 1);
        piece(y, 9, 1);
        given("promise 15: a piece too many is given as well", y, 0, 0);
    }

    private static void onlyOfItsSet() {
        for (int e = 0; e < 8; e++) {
            CapitalReckoner x = exposures(9, 9, 9, 9, 9, 9, 9, 9);
            piece(x, 9, 1 << e);
            given("promise 15: the set of the exposure " + e + " alone", x, e);
            due("promise 16: its bare part", x.bare(e), 0);
            due("promise 16: the next one's", x.bare((e + 1) % 8), 9);
            due("promise 18: the whole", x.whole(), 63);
        }
        CapitalReckoner y = exposures(9, 9);
        piece(y, 9, 0);
        given("promise 15: no set, so to none", y, NONE);
        due("promise 14: it has a value yet", y.value(0, 1), 9);
    }

    private static void onlyWhereThereIsOne() {
        CapitalReckoner x = exposures(9);
        piece(x, 9, 254);
        given("promise 15: seven exposures that there are not", x, NONE);
        due("promise 20: it is worth nothing", x.worth(0), 0);
        x.addExposure(3, 0, 9, 0, 0, 1);
        given("promise 15: one of them is there then", x, 1);
        due("promise 20: it is worth as much as it covers", x.worth(0), 9);
    }

    private static void afterEachChange() {
        CapitalReckoner x = exposures(10, 20);
        piece(x, 100, 3);
        due("promise 15: at first", x.givenTo(0), 1);
        x.setClass(1, 0);
        due("promise 15: after setClass", x.givenTo(0), 0);
        x.setWeights(0, 90, 0);
        due("promise 15: after setWeights", x.givenTo(0), 1);
        // 3 and 4 are weighted of the exposure 1 from here on.
        x.guarantee(1, 1, 15);
        due("promise 15: after guarantee", x.givenTo(0), 0);
        x.draw(0, -10);
        due("promise 15: after draw, where the amount 4 is left", x.givenTo(0), 1);
        x.draw(0, 10);
        due("promise 15: after the draw back", x.givenTo(0), 0);
        x.guarantee(1, 1, 0);
        due("promise 15: after no guarantee", x.givenTo(0), 1);
        x.setPiece(0, 100, 1);
        due("promise 15: after setPiece", x.givenTo(0), 0);
        x.setPiece(0, 100, 7);
        x.addExposure(3, 0, 30, 0, 0, 1);
        due("promise 15: after addExposure", x.givenTo(0), 2);
        piece(x, 100, 4);
        due("promise 15: after addPiece", x.givenTo(0), 1);
    }

    /** No other question comes between, so nothing that one of them left can be of help. */
    private static void triedAfterEachChange() {
        CapitalReckoner x = exposures(10, 20);
        due("promise 19: after addExposure", x.wholeByTrying(), 30);
        piece(x, 15, 3);
        due("promise 19: after addPiece", x.wholeByTrying(), 15);
        x.setPiece(0, 15, 1);
        due("promise 19: after setPiece", x.wholeByTrying(), 20);
        x.setClass(1, 2);
        due("promise 19: after setClass", x.wholeByTrying(), 10);
        x.setWeights(2, 150, 0);
        due("promise 19: after setWeights", x.wholeByTrying(), 30);
        x.guarantee(1, 0, 10);
        due("promise 19: after guarantee", x.wholeByTrying(), 15);
        x.draw(1, -10);
        due("promise 19: after draw, where the amount 14 is left", x.wholeByTrying(), 6);
    }

    private static void triedBesideAPieceOfNoUse() {
        CapitalReckoner x = exposures(10, 20);
        piece(x, 15, 4);
        piece(x, 15, 3);
        piece(x, 15, 0);
        piece(x, 10, 1);
        given("promise 15: two pieces of no use", x, NONE, 1, NONE, 0);
        due("promise 19: the other two are tried", x.wholeByTrying(), 5);
        due("promise 18: the same", x.whole(), 5);
    }

    private static void worthByAnotherBest() {
        CapitalReckoner x = exposures(100, 50);
        piece(x, 100, 3);
        due("promise 20: alone", x.worth(0), 100);
        piece(x, 100, 3);
        due("promise 20: without it the other one goes to the greater exposure", x.worth(0), 50);
        due("promise 20: without the other one as well", x.worth(1), 50);
        given("promise 20: all is as it was", x, 0, 1);
    }

    private static void worthOfNothing() {
        CapitalReckoner x = exposures(100);
        piece(x, 100, 1);
        piece(x, 1, 1);
        due("promise 20: a piece too many", x.worth(1), 0);
        due("promise 20: all but 1 of a piece", x.worth(0), 99);
        x.addPiece(100, 100, 0, 1, 1);
        due("promise 20: a piece of no value", x.worth(2), 0);
    }
}
