/** Each "less", "fewer", "differ", "up to", "at least", "greater" and "above" of the document: one below, the same, one above. */
public final class ThresholdTest {
    private static final Checks CHECKS = new Checks();

    public static void main(String[] args) {
        currenciesDiffer();
        fewerDaysLeft();
        bareIsAtLeastNothing();
        manyPiecesForOne();
        guaranteeOfLessWeight();
        guaranteeAsWeightsChange();
        guaranteeUpToItsSum();
        guaranteeOfNothing();
        guaranteeInPlaceOfAnother();
        requiredIsTheGreaterOne();
        aboveAQuarter();
        nothingIsNotAboveNothing();
        CHECKS.end("ThresholdTest");
    }

    private static void due(String what, int got, int want) {
        CHECKS.due(what, got, want);
    }

    private static CapitalReckoner exposure(int kind, int drawn) {
        CapitalReckoner x = new CapitalReckoner();
        x.addExposure(kind, 0, drawn, 0, 0, 100);
        return x;
    }

    private static void currenciesDiffer() {
        for (int its = 0; its < 3; its++) {
            for (int other = 0; other < 3; other++) {
                CapitalReckoner x = new CapitalReckoner();
                x.addExposure(3, 0, 1000, 0, its, 100);
                x.addPiece(100, 0, other, 100, 1);
                due("promise 14: currencies " + its + " and " + other, x.value(0, 0), its == other ? 100 : 92);
            }
        }
    }

    private static void fewerDaysLeft() {
        CapitalReckoner x = exposure(3, 1000);
        x.addPiece(1000, 0, 0, 99, 1);
        x.addPiece(1000, 0, 0, 100, 1);
        x.addPiece(1000, 0, 0, 101, 1);
        due("promise 14: a day fewer", x.value(0, 0), 990);
        due("promise 14: as many days", x.value(1, 0), 1000);
        due("promise 14: a day more", x.value(2, 0), 1000);
    }

    private static void bareIsAtLeastNothing() {
        CapitalReckoner x = exposure(3, 100);
        x.addPiece(99, 0, 0, 100, 1);
        due("promise 16: a piece of 1 less", x.bare(0), 1);
        due("promise 17: weighted then", x.weighted(0), 1);
        x.setPiece(0, 100, 1);
        due("promise 16: a piece of as much", x.bare(0), 0);
        due("promise 17: weighted then", x.weighted(0), 0);
        x.setPiece(0, 101, 1);
        due("promise 16: a piece of 1 more", x.bare(0), 0);
        due("promise 17: weighted then", x.weighted(0), 0);
        due("promise 18: what is too much helps none", x.whole(), 0);
        due("promise 19: the same by trying", x.wholeByTrying(), 0);
        x.addExposure(3, 0, 50, 0, 0, 100);
        due("promise 23: nor another exposure of the party", x.partyBare(0), 50);
    }

    private static void manyPiecesForOne() {
        CapitalReckoner x = exposure(3, 100);
        int[] amounts = {10, 20, 30, 40, 50};
        int[] left = {90, 70, 40, 0, 0};
        for (int p = 0; p < 5; p++) {
            x.addPiece(amounts[p], 0, 0, 100, 1);
            due("promise 16: bare with " + (p + 1) + " pieces", x.bare(0), left[p]);
        }
    }

    private static void guaranteeOfLessWeight() {
        int[] weights = {79, 80, 81};
        int[] want = {2, 3, 3};
        for (int i = 0; i < 3; i++) {
            CapitalReckoner x = exposure(3, 4);
            x.setWeights(3, 80, 100);
            x.setWeights(2, weights[i], 100);
            x.guarantee(0, 2, 1);
            // 1 and 3 of 4, each rounded down, make 2; 4 of 4 make 3.
            due("promise 17: a guarantee of " + weights[i] + " where its own weight is 80", x.weighted(0), want[i]);
        }
    }

    private static void guaranteeAsWeightsChange() {
        CapitalReckoner x = exposure(2, 1000);
        x.guarantee(0, 3, 400);
        due("promise 17: the guarantee weighs more", x.weighted(0), 500);
        x.setWeights(3, 10, 100);
        due("promise 17: it came to weigh less", x.weighted(0), 40 + 300);
        x.setClass(0, 0);
        due("promise 17: the exposure came to weigh nothing", x.weighted(0), 0);
        x.setClass(0, 3);
        due("promise 17: both are of one class", x.weighted(0), 100);
    }

    private static void guaranteeUpToItsSum() {
        CapitalReckoner x = exposure(3, 1000);
        x.guarantee(0, 0, 999);
        due("promise 8: 1 less than the bare part", x.weighted(0), 1);
        x.guarantee(0, 0, 1000);
        due("promise 8: as much as the bare part", x.weighted(0), 0);
        x.guarantee(0, 0, 1001);
        due("promise 8: 1 more than the bare part", x.weighted(0), 0);
        x.guarantee(0, 0, 500);
        x.addPiece(500, 0, 0, 100, 1);
        due("promise 8: of the bare part, not of the amount", x.weighted(0), 0);
        due("promise 16: the guarantee leaves the bare part as it is", x.bare(0), 500);
        due("promise 21: and the plain sum", x.plain(), 1000);
        x.setPiece(0, 499, 1);
        due("promise 8: 1 more is bare", x.weighted(0), 1);
    }

    private static void guaranteeOfNothing() {
        CapitalReckoner x = exposure(3, 1000);
        due("promise 8: none before", x.guarantee(0, 0, 1), 0);
        due("promise 8: a guarantee of 1", x.weighted(0), 999);
        due("promise 8: none from now on", x.guarantee(0, 0, 0), 1);
        due("promise 8: no guarantee", x.weighted(0), 1000);
        due("promise 8: there was none", x.guarantee(0, 1, 0), 0);
    }

    private static void guaranteeInPlaceOfAnother() {
        CapitalReckoner x = exposure(3, 1000);
        x.guarantee(0, 0, 600);
        x.guarantee(0, 1, 100);
        due("promise 8: the second one alone", x.weighted(0), 20 + 900);
        due("promise 8: its sum alone", x.guarantee(0, 0, 0), 100);
    }

    private static void requiredIsTheGreaterOne() {
        CapitalReckoner x = exposure(3, 100);
        x.setWeights(3, 70, 100);
        due("promise 22: both are 70", x.required(), 70);
        x.setFloor(71);
        due("promise 22: the floor is 1 more", x.required(), 71);
        x.setFloor(69);
        due("promise 22: the floor is 1 less", x.required(), 70);
        x.setFloor(70);
        x.setWeights(3, 71, 100);
        due("promise 22: the whole is 1 more", x.required(), 71);
        x.setWeights(3, 69, 100);
        due("promise 22: the whole is 1 less", x.required(), 70);
    }

    private static void aboveAQuarter() {
        for (int party = 0; party < 4; party++) {
            CapitalReckoner x = new CapitalReckoner();
            x.setCapital(400);
            x.addExposure(3, party, 99, 0, 0, 100);
            due("promise 24: 1 less than a quarter, party " + party, x.tooLarge(), 0);
            x.addExposure(3, party, 1, 0, 0, 100);
            due("promise 24: a quarter, of two exposures together", x.tooLarge(), 0);
            x.addExposure(0, party, 1, 0, 0, 100);
            due("promise 24: 1 more, of whatever weight", x.tooLarge(), 1 << party);
            x.addPiece(1, 0, 0, 100, 1);
            due("promise 24: 1 less by a piece", x.tooLarge(), 0);
            due("promise 23: the bare parts then", x.partyBare(party), 100);
        }
    }

    private static void nothingIsNotAboveNothing() {
        CapitalReckoner x = exposure(3, 1);
        due("promise 24: by the first capital 1 is too much", x.tooLarge(), 1);
        x.addPiece(1, 0, 0, 100, 1);
        due("promise 24: and nothing is not", x.tooLarge(), 0);
    }
}
