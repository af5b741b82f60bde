/** No exposure and no piece yet, the first ones, the last ones that there can be, and one too many; and the last call. */
public final class EmptyFullTest {
    private static final int NONE = CapitalReckoner.NONE;
    private static final Checks CHECKS = new Checks();

    public static void main(String[] args) {
        promise1NothingYet();
        promise1FirstSettings();
        promise1ItsOwn();
        numberedCallsOfNothing();
        noPiece();
        noExposure();
        exposuresOneByOne();
        piecesOneByOne();
        theEighthExposure();
        theFifthPiece();
        eightAndFive();
        aNinthAndASixth();
        theLastCall();
        CHECKS.end("EmptyFullTest");
    }

    private static void due(String what, int got, int want) {
        CHECKS.due(what, got, want);
    }

    private static void promise1NothingYet() {
        CapitalReckoner x = new CapitalReckoner();
        due("promise 9: exposures", x.exposures(), 0);
        due("promise 13: pieces", x.pieces(), 0);
        due("promise 18: whole", x.whole(), 0);
        due("promise 19: wholeByTrying", x.wholeByTrying(), 0);
        due("promise 21: plain", x.plain(), 0);
        due("promise 22: required", x.required(), 0);
        for (int party = 0; party < 4; party++) {
            due("promise 23: party " + party, x.partyBare(party), 0);
        }
        due("promise 24: tooLarge", x.tooLarge(), 0);
    }

    private static void promise1FirstSettings() {
        int[] weights = {0, 20, 50, 100};
        int[] plains = {0, 50, 100, 100};
        CapitalReckoner x = new CapitalReckoner();
        for (int kind = 0; kind < 4; kind++) {
            CapitalReckoner y = new CapitalReckoner();
            y.addExposure(kind, 0, 100, 0, 0, 1);
            due("promise 2: the first weight of " + kind, y.whole(), weights[kind]);
            due("promise 2: the first plain weight of " + kind, y.plain(), plains[kind]);
            due("promise 2: the weight before of " + kind, x.setWeights(kind, 1, 1), weights[kind]);
        }
        due("promise 3: the first floor", x.setFloor(1), 70);
        due("promise 4: the first capital", x.setCapital(1), 0);
        due("the constant", NONE, -1);
    }

    private static void promise1ItsOwn() {
        CapitalReckoner x = new CapitalReckoner();
        CapitalReckoner y = new CapitalReckoner();
        x.addExposure(3, 0, 100, 0, 0, 1);
        x.addPiece(1, 0, 0, 1, 1);
        x.setWeights(3, 1, 1);
        x.setFloor(1);
        x.setCapital(1);
        due("promise 1: another object has no exposure", y.exposures(), 0);
        due("promise 1: and no piece", y.pieces(), 0);
        due("promise 1: and its own weights", y.setWeights(3, 2, 2), 100);
        due("promise 1: and its own floor", y.setFloor(2), 70);
        due("promise 1: and its own capital", y.setCapital(2), 0);
    }

    private static void numberedCallsOfNothing() {
        CHECKS.refused("promise 6: draw", Samples::fresh, Checks.INDEX, x -> x.draw(0, 0));
        CHECKS.refused("promise 7: setClass", Samples::fresh, Checks.INDEX, x -> x.setClass(0, 0));
        CHECKS.refused("promise 8: guarantee", Samples::fresh, Checks.INDEX, x -> x.guarantee(0, 0, 0));
        CHECKS.refused("promise 10: amount", Samples::fresh, Checks.INDEX, x -> x.amount(0));
        CHECKS.refused("promise 12: setPiece", Samples::fresh, Checks.INDEX, x -> x.setPiece(0, 1, 1));
        CHECKS.refused("promise 14: value", Samples::fresh, Checks.INDEX, x -> x.value(0, 0));
        CHECKS.refused("promise 15: givenTo", Samples::fresh, Checks.INDEX, x -> x.givenTo(0));
        CHECKS.refused("promise 16: bare", Samples::fresh, Checks.INDEX, x -> x.bare(0));
        CHECKS.refused("promise 17: weighted", Samples::fresh, Checks.INDEX, x -> x.weighted(0));
        CHECKS.refused("promise 20: worth", Samples::fresh, Checks.INDEX, x -> x.worth(0));
    }

    private static CapitalReckoner oneExposure() {
        CapitalReckoner x = new CapitalReckoner();
        x.addExposure(3, 2, 100, 10, 0, 1);
        return x;
    }

    private static void noPiece() {
        CapitalReckoner x = oneExposure();
        due("promise 16: all is bare", x.bare(0), 104);
        due("promise 17: and weighted", x.weighted(0), 104);
        due("promise 18: the whole", x.whole(), 104);
        due("promise 19: by trying", x.wholeByTrying(), 104);
        due("promise 22: required", x.required(), 104);
        due("promise 23: of the party", x.partyBare(2), 104);
        due("promise 24: too large", x.tooLarge(), 4);
        CHECKS.refused("promise 14: no piece", EmptyFullTest::oneExposure, Checks.INDEX, y -> y.value(0, 0));
        CHECKS.refused("promise 15: no piece", EmptyFullTest::oneExposure, Checks.INDEX, y -> y.givenTo(0));
        CHECKS.refused("promise 20: no piece", EmptyFullTest::oneExposure, Checks.INDEX, y -> y.worth(0));
    }

    private static CapitalReckoner onePiece() {
        CapitalReckoner x = new CapitalReckoner();
        x.addPiece(100, 0, 0, 1, 255);
        return x;
    }

    private static void noExposure() {
        CapitalReckoner x = onePiece();
        due("promise 15: to none", x.givenTo(0), NONE);
        due("promise 18: the whole", x.whole(), 0);
        due("promise 19: by trying", x.wholeByTrying(), 0);
        due("promise 20: worth nothing", x.worth(0), 0);
        due("promise 22: required", x.required(), 0);
        due("promise 24: too large", x.tooLarge(), 0);
        CHECKS.refused("promise 14: no exposure", EmptyFullTest::onePiece, Checks.INDEX, y -> y.value(0, 0));
        CHECKS.refused("promise 16: no exposure", EmptyFullTest::onePiece, Checks.INDEX, y -> y.bare(0));
    }

    private static void exposuresOneByOne() {
        CapitalReckoner x = new CapitalReckoner();
        for (int e = 0; e < 8; e++) {
            due("promise 5: the number " + e, x.addExposure(3, 0, 1, 0, 0, 1), e);
            due("promise 9: so many then", x.exposures(), e + 1);
            due("promise 18: the whole of so many", x.whole(), e + 1);
            due("promise 21: the plain sum of so many", x.plain(), e + 1);
        }
    }

    private static void piecesOneByOne() {
        CapitalReckoner x = new CapitalReckoner();
        x.addExposure(3, 0, 10, 0, 0, 1);
        for (int p = 0; p < 5; p++) {
            due("promise 11: the number " + p, x.addPiece(1, 0, 0, 1, 1), p);
            due("promise 13: so many then", x.pieces(), p + 1);
            due("promise 18: the whole with so many", x.whole(), 9 - p);
            due("promise 19: the same by trying", x.wholeByTrying(), 9 - p);
        }
    }

    /** The exposure 7 differs from the others in all that can be said of it. */
    private static void theEighthExposure() {
        CapitalReckoner x = new CapitalReckoner();
        for (int e = 0; e < 7; e++) {
            x.addExposure(1, 0, 10, 0, 0, 10);
        }
        x.addExposure(3, 3, 100, 50, 2, 20);
        x.addPiece(50, 0, 2, 10, 255);
        due("promise 10: its amount", x.amount(7), 120);
        due("promise 14: the value for it", x.value(0, 7), 25);
        due("promise 15: the piece goes to it", x.givenTo(0), 7);
        due("promise 16: its bare part", x.bare(7), 95);
        due("promise 17: weighted", x.weighted(7), 95);
        due("promise 18: the whole", x.whole(), 7 * 2 + 95);
        due("promise 19: by trying", x.wholeByTrying(), 7 * 2 + 95);
        due("promise 20: worth of the piece", x.worth(0), 25);
        due("promise 21: the plain sum", x.plain(), 7 * 5 + 120);
        due("promise 23: of its party", x.partyBare(3), 95);
        due("promise 24: too large", x.tooLarge(), 1 + 8);
        due("promise 6: drawn", x.draw(7, 50), 150);
        due("promise 8: no guarantee before", x.guarantee(7, 0, 25), 0);
        due("promise 17: weighted, of 125", x.weighted(7), 100);
        due("promise 7: its class", x.setClass(7, 0), 3);
        due("promise 18: the whole without it", x.whole(), 7 * 2 - 2);
    }

    private static void theFifthPiece() {
        CapitalReckoner x = new CapitalReckoner();
        x.addExposure(3, 0, 1000, 0, 0, 10);
        for (int p = 0; p < 4; p++) {
            x.addPiece(10, 0, 0, 10, 1);
        }
        x.addPiece(400, 50, 1, 5, 1);
        due("promise 14: its value", x.value(4, 0), 92);
        due("promise 15: it is given", x.givenTo(4), 0);
        due("promise 16: with all five", x.bare(0), 1000 - 40 - 92);
        due("promise 20: its worth", x.worth(4), 92);
        due("promise 20: the worth of the fourth", x.worth(3), 10);
        due("promise 12: its amount before", x.setPiece(4, 600, 0), 400);
        due("promise 15: to none", x.givenTo(4), NONE);
        due("promise 16: with four", x.bare(0), 960);
        due("promise 12: its amount before", x.setPiece(4, 600, 1), 600);
        due("promise 16: with five again", x.bare(0), 960 - 138);
    }

    /** The pieces 0 to 4 are for the exposures 3 to 7, each of them for the next one too. */
    private static void eightAndFive() {
        CapitalReckoner x = new CapitalReckoner();
        for (int e = 0; e < 8; e++) {
            x.addExposure(3, e / 2, 100, 0, 0, 1);
        }
        for (int p = 0; p < 5; p++) {
            x.addPiece(100, 0, 0, 1, 3 << p + 3 & 255);
        }
        for (int p = 0; p < 5; p++) {
            due("promise 15: the piece " + p, x.givenTo(p), p + 3);
            due("promise 16: its exposure", x.bare(p + 3), 0);
            due("promise 20: its worth", x.worth(p), 100);
        }
        due("promise 18: three are left", x.whole(), 300);
        due("promise 19: by trying", x.wholeByTrying(), 300);
        due("promise 22: the floor is above it", x.required(), 560);
        due("promise 23: the party 0", x.partyBare(0), 200);
        due("promise 23: the party 1", x.partyBare(1), 100);
        due("promise 24: too large", x.tooLarge(), 1 + 2);
    }

    private static void aNinthAndASixth() {
        CHECKS.refused("promise 5: a ninth exposure", Samples::full, Checks.STATE, x -> x.addExposure(0, 0, 0, 0, 0, 1));
        CHECKS.refused("promise 11: a sixth piece", Samples::full, Checks.STATE, x -> x.addPiece(1, 0, 0, 1, 0));
        CapitalReckoner x = Samples.full();
        Checks.answer(() -> x.addExposure(0, 0, 0, 0, 0, 1));
        Checks.answer(() -> x.addPiece(1, 0, 0, 1, 0));
        due("promise 9: eight stay", x.exposures(), 8);
        due("promise 13: five stay", x.pieces(), 5);
        CHECKS.due("promise 5: a ninth again", Checks.answer(() -> x.addExposure(0, 0, 0, 0, 0, 1)), "throws IllegalStateException");
        CHECKS.due("promise 11: a sixth again", Checks.answer(() -> x.addPiece(1, 0, 0, 1, 0)), "throws IllegalStateException");
    }

    /** An object is used for at most 512 calls; the last ones are answered as the first ones were. */
    private static void theLastCall() {
        CapitalReckoner x = new CapitalReckoner();
        Checks.answer(() -> x.addExposure(3, 0, 100, 0, 0, 1));
        Checks.answer(() -> x.addPiece(30, 0, 0, 1, 1));
        for (int call = 3; call <= 510; call++) {
            due("the call " + call, x.setPiece(0, call, 1), call == 3 ? 30 : call - 1);
        }
        due("the call 511", x.setPiece(0, 60, 1), 510);
        due("the call 512", x.whole(), 40);
    }
}
