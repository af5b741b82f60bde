/** Each division of the document is rounded down, and by itself; every sum here is another one if it is not. */
public final class RoundingTest {
    private static final int TOP = Samples.TOP;
    private static final Checks CHECKS = new Checks();

    public static void main(String[] args) {
        amount();
        haircut();
        otherCurrency();
        fewerDays();
        stepsOfAValue();
        valueWithoutWrapAround();
        weightedPart();
        weightedOfTwoParts();
        weightedWithoutWrapAround();
        wholeOfEach();
        plainOfEach();
        plainOfARoundedAmount();
        floor();
        floorWithoutWrapAround();
        quarter();
        quarterOfAllTogether();
        CHECKS.end("RoundingTest");
    }

    private static void due(String what, int got, int want) {
        CHECKS.due(what, got, want);
    }

    private static CapitalReckoner exposure(int kind, int drawn, int promised) {
        CapitalReckoner x = new CapitalReckoner();
        x.addExposure(kind, 0, drawn, promised, 0, 7);
        return x;
    }

    private static int valueOf(int amount, int haircut, int currency, int days) {
        CapitalReckoner x = exposure(3, 1, 0);
        x.addPiece(amount, haircut, currency, days, 1);
        return x.value(0, 0);
    }

    private static void amount() {
        due("40 percent of 1", exposure(3, 0, 1).amount(0), 0);
        due("40 percent of 2", exposure(3, 0, 2).amount(0), 0);
        due("40 percent of 3", exposure(3, 0, 3).amount(0), 1);
        due("40 percent of 4", exposure(3, 5, 4).amount(0), 6);
        due("40 percent of 5", exposure(3, 5, 5).amount(0), 7);
        due("40 percent of 9999999", exposure(3, TOP, TOP - 1).amount(0), 13999999);
    }

    private static void haircut() {
        due("99 percent of 1", valueOf(1, 1, 0, 7), 0);
        due("99 percent of 101", valueOf(101, 1, 0, 7), 99);
        due("50 percent of 3", valueOf(3, 50, 0, 7), 1);
        due("1 percent of 199", valueOf(199, 99, 0, 7), 1);
        due("1 percent of 200", valueOf(200, 99, 0, 7), 2);
    }

    private static void otherCurrency() {
        due("92 percent of 1", valueOf(1, 0, 1, 7), 0);
        due("92 percent of 13", valueOf(13, 0, 2, 7), 11);
        due("92 percent of 25", valueOf(25, 0, 1, 7), 23);
    }

    private static void fewerDays() {
        due("1 of 7 days, of 6", valueOf(6, 0, 0, 1), 0);
        due("1 of 7 days, of 7", valueOf(7, 0, 0, 1), 1);
        due("6 of 7 days, of 9", valueOf(9, 0, 0, 6), 7);
    }

    /** 33 by 90 percent, 92 percent and 6 of 7 days: rounded at each step 29, 26, 22; at the end alone 23. */
    private static void stepsOfAValue() {
        due("rounded at each step", valueOf(33, 10, 1, 6), 22);
        due("the haircut first, then the currency", valueOf(11, 10, 1, 7), 8);
        due("the currency first, then the days", valueOf(14, 0, 1, 4), 6);
        due("the haircut first, then the days", valueOf(9, 40, 0, 4), 2);
    }

    private static void valueWithoutWrapAround() {
        CapitalReckoner x = new CapitalReckoner();
        x.addExposure(3, 0, 1, 0, 0, 3650);
        x.addPiece(TOP, 0, 1, 3649, 1);
        due("the greatest products: 10000000, 9200000, 9197479", x.value(0, 0), 9197479);
        x.addPiece(TOP, 0, 0, 3649, 1);
        due("10000000 by 3649 days of 3650", x.value(1, 0), 9997260);
    }

    private static void weightedPart() {
        due("20 percent of 4", exposure(1, 4, 0).weighted(0), 0);
        due("20 percent of 9", exposure(1, 9, 0).weighted(0), 1);
        due("50 percent of 3", exposure(2, 3, 0).weighted(0), 1);
    }

    private static void weightedOfTwoParts() {
        CapitalReckoner x = exposure(2, 5, 0);
        x.guarantee(0, 1, 4);
        due("20 percent of 4 and 50 percent of 1", x.weighted(0), 0);
        CapitalReckoner y = exposure(2, 9, 0);
        y.guarantee(0, 1, 6);
        due("20 percent of 6 and 50 percent of 3", y.weighted(0), 2);
        y.guarantee(0, 1, 0);
        due("50 percent of 9", y.weighted(0), 4);
    }

    private static void weightedWithoutWrapAround() {
        CapitalReckoner x = exposure(3, TOP, TOP);
        x.setWeights(3, 400, 400);
        due("400 percent of 14000000", x.weighted(0), 56000000);
        x.setWeights(0, 399, 0);
        x.guarantee(0, 0, TOP);
        due("399 percent of 10000000 and 400 percent of 4000000", x.weighted(0), 39900000 + 16000000);
        due("plain: 400 percent of 14000000", x.plain(), 56000000);
    }

    private static void wholeOfEach() {
        CapitalReckoner x = exposure(1, 4, 0);
        x.addExposure(1, 0, 3, 0, 0, 7);
        due("20 percent of 4, and of 3", x.whole(), 0);
        due("the same by trying", x.wholeByTrying(), 0);
        x.addPiece(1, 0, 0, 7, 3);
        due("nothing to gain by a piece", x.worth(0), 0);
    }

    private static void plainOfEach() {
        CapitalReckoner x = exposure(1, 3, 0);
        x.addExposure(1, 0, 5, 0, 0, 7);
        due("50 percent of 3, and of 5", x.plain(), 1 + 2);
    }

    private static void plainOfARoundedAmount() {
        CapitalReckoner x = exposure(1, 0, 4);
        x.setWeights(1, 200, 200);
        due("200 percent of what 40 percent of 4 are", x.plain(), 2);
        due("the same where it is weighted", x.weighted(0), 2);
    }

    private static void floor() {
        CapitalReckoner x = exposure(3, 1, 0);
        x.setWeights(3, 0, 100);
        due("70 percent of 1", x.required(), 0);
        CapitalReckoner y = exposure(3, 4, 0);
        y.setWeights(3, 0, 100);
        due("70 percent of 4", y.required(), 2);
        y.setFloor(99);
        due("99 percent of 4", y.required(), 3);
    }

    private static void floorWithoutWrapAround() {
        CapitalReckoner x = new CapitalReckoner();
        x.setWeights(3, 0, 400);
        for (int e = 0; e < 8; e++) {
            x.addExposure(3, 0, TOP, TOP, 0, 7);
        }
        due("eight times 56000000", x.plain(), 448000000);
        due("70 percent of it", x.required(), 313600000);
        x.setFloor(99);
        due("99 percent of it", x.required(), 443520000);
    }

    private static int tooLarge(int bare, int capital) {
        CapitalReckoner x = exposure(3, bare, 0);
        x.setCapital(capital);
        return x.tooLarge();
    }

    private static void quarter() {
        due("1 and a quarter of 3", tooLarge(1, 3), 1);
        due("1 and a quarter of 4", tooLarge(1, 4), 0);
        due("1 and a quarter of 5", tooLarge(1, 5), 0);
        due("1 and a quarter of 7", tooLarge(1, 7), 0);
        due("2 and a quarter of 7", tooLarge(2, 7), 1);
        due("2 and a quarter of 8", tooLarge(2, 8), 0);
        for (int capital = 100000000; capital <= 1000000000; capital += 100000000) {
            due("1 and a quarter of " + capital, tooLarge(1, capital), 0);
        }
    }

    private static void quarterOfAllTogether() {
        CapitalReckoner x = new CapitalReckoner();
        for (int e = 0; e < 8; e++) {
            x.addExposure(3, 2, TOP, TOP, 0, 7);
        }
        due("eight times 14000000", x.partyBare(2), 112000000);
        x.setCapital(448000000);
        due("not above a quarter", x.tooLarge(), 0);
        x.setCapital(447999999);
        due("above a quarter", x.tooLarge(), 4);
        x.setCapital(1000000000);
        due("far below it", x.tooLarge(), 0);
    }
}
