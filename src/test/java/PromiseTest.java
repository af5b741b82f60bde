import java.util.function.ToIntFunction;

/** For each promise: ordinary inputs, the edges that the document names, and wrong inputs. */
public final class PromiseTest {
    private static final Class<IndexOutOfBoundsException> INDEX = Checks.INDEX;
    private static final Class<IllegalArgumentException> ARGUMENT = Checks.ARGUMENT;
    private static final Class<IllegalStateException> STATE = Checks.STATE;
    private static final int TOP = Samples.TOP;
    private static final int[] FAR = {Integer.MIN_VALUE, Integer.MAX_VALUE, 1 << 16, -1 << 16};
    private static final Checks CHECKS = new Checks();

    public static void main(String[] args) {
        promise1NewObject();
        promise2SetWeights();
        promise3SetFloor();
        promise4SetCapital();
        promise5AddExposure();
        promise6Draw();
        promise7SetClass();
        promise8Guarantee();
        promise8GuaranteeParts();
        promises9And10Amounts();
        promise11AddPiece();
        promise12SetPiece();
        promises13And14Values();
        promise15GivenTo();
        promise15Ties();
        promises16And17Parts();
        promises18And19Whole();
        promise20Worth();
        promises21And22Required();
        promises23And24Parties();
        CHECKS.end("PromiseTest");
    }

    private static void due(String what, int got, int want) {
        CHECKS.due(what, got, want);
    }

    private static void refused(String what, Class<? extends RuntimeException> want, ToIntFunction<CapitalReckoner> call) {
        refused("fresh, " + what, Samples::fresh, want, call);
        refused("some, " + what, Samples::some, want, call);
        refused("full, " + what, Samples::full, want, call);
    }

    private static void refused(String what, Checks.Maker maker, Class<? extends RuntimeException> want,
            ToIntFunction<CapitalReckoner> call) {
        CHECKS.refused(what, maker, want, call);
    }

    private static void promise1NewObject() {
        CapitalReckoner x = Samples.fresh();
        due("new exposures", x.exposures(), 0);
        due("new pieces", x.pieces(), 0);
        due("new whole", x.whole(), 0);
        due("new wholeByTrying", x.wholeByTrying(), 0);
        due("new plain", x.plain(), 0);
        due("new required", x.required(), 0);
        due("new tooLarge", x.tooLarge(), 0);
        for (int party = 0; party < 4; party++) {
            due("new partyBare " + party, x.partyBare(party), 0);
        }
        due("NONE", CapitalReckoner.NONE, -1);
        CapitalReckoner y = Samples.fresh();
        x.addExposure(3, 0, 10, 0, 0, 1);
        due("another object has its own exposures", y.exposures(), 0);
    }

    private static void promise2SetWeights() {
        int[] first = {0, 20, 50, 100};
        int[] firstPlain = {0, 50, 100, 100};
        for (int kind = 0; kind < 4; kind++) {
            CapitalReckoner x = Samples.fresh();
            x.addExposure(kind, 0, 1000, 0, 0, 1);
            due("first weight of " + kind, x.whole(), first[kind] * 10);
            due("first plain weight of " + kind, x.plain(), firstPlain[kind] * 10);
            due("weight before of " + kind, x.setWeights(kind, 400, 0), first[kind]);
            due("whole by 400", x.whole(), 4000);
            due("plain by 0", x.plain(), 0);
            due("weight 400 before", x.setWeights(kind, 0, 400), 400);
            due("whole by 0", x.whole(), 0);
            due("plain by 400", x.plain(), 4000);
            for (int other = 0; other < 4; other++) {
                due("weight of " + other, x.setWeights(other, 1, 1), other == kind ? 0 : first[other]);
            }
        }
        for (int kind : new int[] {-1, 4, FAR[0], FAR[1], FAR[2], FAR[3]}) {
            refused("setWeights class " + kind, INDEX, x -> x.setWeights(kind, 10, 10));
            refused("setWeights class and weight " + kind, INDEX, x -> x.setWeights(kind, -1, 401));
        }
        for (int weight : new int[] {-1, 401, FAR[0], FAR[1], FAR[2], FAR[3]}) {
            refused("setWeights weight " + weight, ARGUMENT, x -> x.setWeights(3, weight, 10));
            refused("setWeights plain " + weight, ARGUMENT, x -> x.setWeights(0, 10, weight));
        }
    }

    private static void promise3SetFloor() {
        CapitalReckoner x = Samples.fresh();
        due("first floor", x.setFloor(0), 70);
        due("floor 0 before", x.setFloor(100), 0);
        due("floor 100 before", x.setFloor(33), 100);
        due("floor 33 before", x.setFloor(33), 33);
        for (int percent : new int[] {-1, 101, FAR[0], FAR[1], FAR[2], FAR[3]}) {
            refused("setFloor " + percent, ARGUMENT, y -> y.setFloor(percent));
        }
    }

    private static void promise4SetCapital() {
        CapitalReckoner x = Samples.fresh();
        due("first capital", x.setCapital(1000000000), 0);
        due("capital 1000000000 before", x.setCapital(0), 1000000000);
        due("capital 0 before", x.setCapital(17), 0);
        for (int sum : new int[] {-1, 1000000001, FAR[0], FAR[1], FAR[3]}) {
            refused("setCapital " + sum, ARGUMENT, y -> y.setCapital(sum));
        }
    }

    private static void promise5AddExposure() {
        CapitalReckoner x = Samples.fresh();
        for (int e = 0; e < 8; e++) {
            due("number of an exposure", x.addExposure(e % 4, e % 4, e % 2 * TOP, (1 - e % 2) * TOP, e % 3, e == 0 ? 1 : 3650), e);
            due("exposures", x.exposures(), e + 1);
            due("amount", x.amount(e), e % 2 == 1 ? TOP : 4000000);
            due("class", x.setClass(e, e % 4), e % 4);
        }
        for (int no : new int[] {-1, 4, FAR[0], FAR[1], FAR[2], FAR[3]}) {
            refused("addExposure class " + no, INDEX, y -> y.addExposure(no, 0, 1, 1, 0, 1));
            refused("addExposure party " + no, INDEX, y -> y.addExposure(0, no, 1, 1, 0, 1));
            refused("addExposure class, drawn " + no, INDEX, y -> y.addExposure(no, 0, -1, 1, 0, 1));
            refused("addExposure party, days " + no, INDEX, y -> y.addExposure(0, no, 1, 1, 0, 0));
        }
        for (int no : new int[] {-1, TOP + 1, FAR[0], FAR[1], FAR[3]}) {
            refused("addExposure drawn " + no, ARGUMENT, y -> y.addExposure(0, 0, no, 1, 0, 1));
            refused("addExposure promised " + no, ARGUMENT, y -> y.addExposure(0, 0, 1, no, 0, 1));
        }
        for (int no : new int[] {-1, 3, FAR[0], FAR[1], FAR[2], FAR[3]}) {
            refused("addExposure currency " + no, ARGUMENT, y -> y.addExposure(0, 0, 1, 1, no, 1));
        }
        for (int no : new int[] {-1, 0, 3651, FAR[0], FAR[1], FAR[2], FAR[3]}) {
            refused("addExposure days " + no, ARGUMENT, y -> y.addExposure(0, 0, 1, 1, 0, no));
        }
        refused("a ninth exposure", Samples::full, STATE, y -> y.addExposure(0, 0, 1, 1, 0, 1));
    }

    private static void promise6Draw() {
        CapitalReckoner x = Samples.fresh();
        x.addExposure(3, 0, 100, 50, 0, 1);
        due("draw 20", x.draw(0, 20), 120);
        due("amount then", x.amount(0), 132);
        due("draw the rest", x.draw(0, 30), 150);
        due("amount then", x.amount(0), 150);
        due("give back all", x.draw(0, -150), 0);
        due("amount then", x.amount(0), 60);
        due("draw nothing", x.draw(0, 0), 0);
        x.addExposure(3, 0, 0, TOP, 0, 1);
        due("draw 10000000", x.draw(1, TOP), TOP);
        due("amount then", x.amount(1), TOP);
        due("give 10000000 back", x.draw(1, -TOP), 0);
        due("amount then", x.amount(1), 4000000);
        for (int no : new int[] {-1, 3, 8, FAR[0], FAR[1], FAR[2], FAR[3]}) {
            refused("draw from exposure " + no, Samples::some, INDEX, y -> y.draw(no, 1));
            refused("draw too much from exposure " + no, Samples::some, INDEX, y -> y.draw(no, TOP + 1));
        }
        refused("draw from no exposure", Samples::fresh, INDEX, y -> y.draw(0, 1));
        for (int no : new int[] {-TOP - 1, TOP + 1, FAR[0], FAR[1]}) {
            refused("draw sum " + no, Samples::some, ARGUMENT, y -> y.draw(0, no));
        }
        refused("draw above the promised part", Samples::some, STATE, y -> y.draw(0, 501));
        refused("give back above the drawn part", Samples::some, STATE, y -> y.draw(0, -1001));
        refused("drawn above 10000000", Samples::some, STATE, y -> y.draw(2, TOP - 299));
        refused("promised above 10000000", Samples::some, STATE, y -> y.draw(2, -1));
        due("drawn to 10000000", Samples.some().draw(2, TOP - 300), TOP);
    }

    private static void promise7SetClass() {
        CapitalReckoner x = Samples.some();
        due("class before", x.setClass(0, 3), 1);
        due("class before", x.setClass(0, 0), 3);
        due("class before", x.setClass(0, 0), 0);
        due("class of another", x.setClass(1, 2), 2);
        CapitalReckoner y = Samples.fresh();
        y.addExposure(3, 0, 1000, 0, 0, 1);
        y.setClass(0, 1);
        due("whole by the class", y.whole(), 200);
        due("plain by the class", y.plain(), 500);
        for (int no : new int[] {-1, 3, 8, FAR[0], FAR[1], FAR[2], FAR[3]}) {
            refused("setClass of exposure " + no, Samples::some, INDEX, z -> z.setClass(no, 0));
        }
        for (int no : new int[] {-1, 4, FAR[0], FAR[1], FAR[2], FAR[3]}) {
            refused("setClass to " + no, Samples::some, INDEX, z -> z.setClass(0, no));
            refused("setClass to " + no, Samples::full, INDEX, z -> z.setClass(7, no));
        }
        refused("setClass of no exposure", Samples::fresh, INDEX, z -> z.setClass(0, 0));
    }

    private static void promise8Guarantee() {
        CapitalReckoner x = Samples.some();
        due("no guarantee before", x.guarantee(0, 0, TOP), 0);
        due("guarantee before", x.guarantee(0, 3, 5), TOP);
        due("guarantee before", x.guarantee(0, 3, 0), 5);
        due("guarantee of 0 before", x.guarantee(0, 0, 0), 0);
        due("guarantee of another", x.guarantee(2, 0, 1), 77);
        for (int no : new int[] {-1, 3, 8, FAR[0], FAR[1], FAR[2], FAR[3]}) {
            refused("guarantee of exposure " + no, Samples::some, INDEX, z -> z.guarantee(no, 0, 1));
            refused("guarantee of exposure, sum " + no, Samples::some, INDEX, z -> z.guarantee(no, 0, -1));
        }
        for (int no : new int[] {-1, 4, FAR[0], FAR[1], FAR[2], FAR[3]}) {
            refused("guarantee class " + no, Samples::some, INDEX, z -> z.guarantee(2, no, 1));
            refused("guarantee class, no sum " + no, Samples::some, INDEX, z -> z.guarantee(2, no, 0));
            refused("guarantee class, sum " + no, Samples::some, INDEX, z -> z.guarantee(2, no, TOP + 1));
        }
        for (int no : new int[] {-1, TOP + 1, FAR[0], FAR[1]}) {
            refused("guarantee sum " + no, Samples::some, ARGUMENT, z -> z.guarantee(2, 0, no));
        }
        refused("guarantee of no exposure", Samples::fresh, INDEX, z -> z.guarantee(0, 0, 0));
    }

    private static void promise8GuaranteeParts() {
        CapitalReckoner x = Samples.fresh();
        x.addExposure(2, 0, 999, 0, 0, 1);
        due("without a guarantee", x.weighted(0), 499);
        x.guarantee(0, 1, 499);
        due("two parts, each rounded down", x.weighted(0), 99 + 250);
        x.guarantee(0, 1, 999);
        due("all guaranteed", x.weighted(0), 199);
        x.guarantee(0, 1, TOP);
        due("more than all guaranteed", x.weighted(0), 199);
        x.guarantee(0, 3, 500);
        due("a guarantee by a class of more weight", x.weighted(0), 499);
        x.setWeights(3, 50, 100);
        x.guarantee(0, 3, 1);
        due("a guarantee by a class of the same weight", x.weighted(0), 499);
        x.guarantee(0, 3, 333);
        x.setWeights(3, 49, 100);
        due("by a class whose weight became less", x.weighted(0), 163 + 333);
        x.setClass(0, 1);
        due("of an exposure whose class came to weigh less", x.weighted(0), 199);
        x.addPiece(700, 0, 0, 1, 1);
        x.setClass(0, 2);
        x.guarantee(0, 0, 200);
        due("the guarantee takes of the bare part", x.weighted(0), 49);
        due("the bare part stays", x.bare(0), 299);
        due("plain knows no guarantee", x.plain(), 999);
        CapitalReckoner y = Samples.fresh();
        y.addExposure(2, 0, 1000, 0, 0, 1);
        y.setWeights(3, 50, 100);
        y.guarantee(0, 3, 333);
        due("the same weight: not two parts, each rounded down", y.weighted(0), 500);
    }

    private static void promises9And10Amounts() {
        due("exposures", Samples.some().exposures(), 3);
        due("exposures", Samples.full().exposures(), 8);
        int[] promised = {0, 1, 2, 3, 4, 5, 7, 8};
        int[] part = {0, 0, 0, 1, 1, 2, 2, 3};
        CapitalReckoner x = Samples.fresh();
        for (int e = 0; e < 8; e++) {
            x.addExposure(0, 0, 10, promised[e], 0, 1);
            due("amount with promised " + promised[e], x.amount(e), 10 + part[e]);
        }
        CapitalReckoner y = Samples.fresh();
        y.addExposure(0, 0, TOP, TOP, 0, 1);
        due("the greatest amount", y.amount(0), 14000000);
        for (int no : new int[] {-1, 3, 8, FAR[0], FAR[1], FAR[2], FAR[3]}) {
            refused("amount of " + no, Samples::some, INDEX, z -> z.amount(no));
        }
        refused("amount of none", Samples::fresh, INDEX, z -> z.amount(0));
        refused("amount of 8", Samples::full, INDEX, z -> z.amount(8));
    }

    private static void promise11AddPiece() {
        CapitalReckoner x = Samples.fresh();
        for (int p = 0; p < 5; p++) {
            due("number of a piece", x.addPiece(p == 0 ? 1 : TOP, p * 25, p % 3, p == 0 ? 1 : 3650, p == 0 ? 0 : 255), p);
            due("pieces", x.pieces(), p + 1);
        }
        for (int no : new int[] {-1, 0, TOP + 1, FAR[0], FAR[1]}) {
            refused("addPiece amount " + no, ARGUMENT, y -> y.addPiece(no, 0, 0, 1, 1));
        }
        for (int no : new int[] {-1, 101, FAR[0], FAR[1], FAR[2]}) {
            refused("addPiece haircut " + no, ARGUMENT, y -> y.addPiece(1, no, 0, 1, 1));
        }
        for (int no : new int[] {-1, 3, FAR[0], FAR[1], FAR[2]}) {
            refused("addPiece currency " + no, ARGUMENT, y -> y.addPiece(1, 0, no, 1, 1));
        }
        for (int no : new int[] {-1, 0, 3651, FAR[0], FAR[1]}) {
            refused("addPiece days " + no, ARGUMENT, y -> y.addPiece(1, 0, 0, no, 1));
        }
        for (int no : new int[] {-1, 256, FAR[0], FAR[1], FAR[2]}) {
            refused("addPiece uses " + no, ARGUMENT, y -> y.addPiece(1, 0, 0, 1, no));
        }
        refused("a sixth piece", Samples::full, STATE, y -> y.addPiece(1, 0, 0, 1, 1));
    }

    private static void promise12SetPiece() {
        CapitalReckoner x = Samples.some();
        due("amount before", x.setPiece(0, TOP, 0), 400);
        due("value then", x.value(0, 0), 4500000);
        due("it goes to none", x.givenTo(0), CapitalReckoner.NONE);
        due("amount before", x.setPiece(0, 1, 255), TOP);
        due("it goes to the first", x.givenTo(0), 0);
        due("amount of another", x.setPiece(1, 1, 1), 600);
        due("amount before", x.setPiece(0, 1, 1), 1);
        for (int no : new int[] {-1, 2, 5, FAR[0], FAR[1], FAR[2], FAR[3]}) {
            refused("setPiece of " + no, Samples::some, INDEX, z -> z.setPiece(no, 1, 1));
            refused("setPiece of, amount " + no, Samples::some, INDEX, z -> z.setPiece(no, 0, 256));
        }
        for (int no : new int[] {-1, 0, TOP + 1, FAR[0], FAR[1]}) {
            refused("setPiece amount " + no, Samples::some, ARGUMENT, z -> z.setPiece(0, no, 1));
        }
        for (int no : new int[] {-1, 256, FAR[0], FAR[1], FAR[2]}) {
            refused("setPiece uses " + no, Samples::some, ARGUMENT, z -> z.setPiece(1, 1, no));
        }
        refused("setPiece of none", Samples::fresh, INDEX, z -> z.setPiece(0, 1, 1));
    }

    private static void promises13And14Values() {
        due("pieces", Samples.some().pieces(), 2);
        due("pieces", Samples.full().pieces(), 5);
        CapitalReckoner x = Samples.fresh();
        x.addExposure(0, 0, 1, 0, 0, 3650);
        x.addExposure(0, 0, 1, 0, 1, 3649);
        x.addExposure(0, 0, 1, 0, 2, 7);
        x.addPiece(TOP, 0, 1, 3649, 0);
        due("another currency and fewer days", x.value(0, 0), 9197479);
        due("the same days", x.value(0, 1), TOP);
        due("more days, another currency", x.value(0, 2), 9200000);
        x.addPiece(99, 50, 0, 6, 255);
        due("rounded down at the haircut", x.value(1, 2), 38);
        due("few of many days", x.value(1, 0), 0);
        x.addPiece(TOP, 100, 0, 1, 255);
        due("all cut off", x.value(2, 0), 0);
        x.addPiece(TOP, 99, 2, 5, 255);
        due("a haircut of 99", x.value(3, 2), 71428);
        for (int no : new int[] {-1, 2, 5, FAR[0], FAR[1], FAR[2], FAR[3]}) {
            refused("value of piece " + no, Samples::some, INDEX, z -> z.value(no, 0));
        }
        for (int no : new int[] {-1, 3, 8, FAR[0], FAR[1], FAR[2], FAR[3]}) {
            refused("value for exposure " + no, Samples::some, INDEX, z -> z.value(0, no));
        }
        refused("value of none", Samples::fresh, INDEX, z -> z.value(0, 0));
    }

    private static void promise15GivenTo() {
        CapitalReckoner x = Samples.fresh();
        x.addPiece(100, 0, 0, 10, 255);
        due("no exposures", x.givenTo(0), CapitalReckoner.NONE);
        x.addExposure(1, 0, 100, 0, 0, 1);
        due("the one exposure", x.givenTo(0), 0);
        x.addExposure(3, 0, 50, 0, 0, 1);
        due("the one that weighs more", x.givenTo(0), 1);
        x.setPiece(0, 100, 252);
        due("only exposures that there are not", x.givenTo(0), CapitalReckoner.NONE);
        x.addExposure(0, 0, 50, 0, 0, 1);
        due("one of them is there then", x.givenTo(0), 2);
        // The greedy order fails here: the piece 0 must leave the exposure 0 to the piece 1.
        CapitalReckoner y = Samples.fresh();
        y.addExposure(3, 0, 100, 0, 0, 1);
        y.addExposure(3, 0, 90, 0, 0, 1);
        y.addPiece(100, 0, 0, 1, 3);
        y.addPiece(100, 0, 0, 1, 1);
        due("the piece 0", y.givenTo(0), 1);
        due("the piece 1", y.givenTo(1), 0);
        due("the whole", y.whole(), 0);
        for (int no : new int[] {-1, 2, 5, FAR[0], FAR[1], FAR[2], FAR[3]}) {
            refused("givenTo of " + no, Samples::some, INDEX, z -> z.givenTo(no));
        }
        refused("givenTo of none", Samples::fresh, INDEX, z -> z.givenTo(0));
        refused("givenTo of 5", Samples::full, INDEX, z -> z.givenTo(5));
    }

    private static void promise15Ties() {
        CapitalReckoner x = Samples.fresh();
        for (int e = 0; e < 8; e++) {
            x.addExposure(0, 0, 100, 0, 0, 1);
        }
        int[] uses = {255, 254, 192, 128, 0};
        int[] to = {0, 1, 6, 7, CapitalReckoner.NONE};
        for (int p = 0; p < 5; p++) {
            x.addPiece(10, 0, 0, 1, uses[p]);
        }
        for (int p = 0; p < 5; p++) {
            due("where nothing weighs, the lowest number: piece " + p, x.givenTo(p), to[p]);
        }
        // Two pieces must be parted; of both ways the one that gives the piece 0 to the lower exposure.
        CapitalReckoner y = Samples.fresh();
        y.addExposure(3, 0, 100, 0, 0, 1);
        y.addExposure(3, 0, 100, 0, 0, 1);
        y.addPiece(100, 0, 0, 1, 3);
        y.addPiece(100, 0, 0, 1, 3);
        due("the piece 0", y.givenTo(0), 0);
        due("the piece 1", y.givenTo(1), 1);
        y.addPiece(5, 0, 0, 1, 3);
        due("the piece 2, no more needed", y.givenTo(2), 0);
        // A value that the rounding swallows matters as little as none.
        CapitalReckoner z = Samples.fresh();
        z.addExposure(1, 0, 4, 0, 0, 1);
        z.addExposure(1, 0, 8, 0, 0, 1);
        z.addPiece(4, 0, 0, 1, 3);
        due("to where it saves a unit after rounding", z.givenTo(0), 1);
        z.setPiece(0, 4, 1);
        due("without use, but not to none", z.givenTo(0), 0);
        z.draw(1, -8);
        z.setPiece(0, 4, 3);
        due("nothing to gain: the lowest number", z.givenTo(0), 0);
    }

    private static void promises16And17Parts() {
        CapitalReckoner x = Samples.fresh();
        x.addExposure(3, 0, 1001, 0, 0, 10);
        x.addExposure(1, 0, 399, 0, 1, 10);
        due("bare without collateral", x.bare(0), 1001);
        due("weighted without collateral", x.weighted(1), 79);
        x.addPiece(500, 0, 0, 10, 1);
        x.addPiece(100, 0, 1, 10, 1);
        due("bare with two pieces", x.bare(0), 1001 - 500 - 92);
        due("weighted with two pieces", x.weighted(0), 409);
        due("bare of the other", x.bare(1), 399);
        x.setPiece(0, 5000, 3);
        due("covered by more than its amount", x.bare(0), 0);
        due("weighted then", x.weighted(0), 0);
        x.setWeights(3, 400, 100);
        x.setPiece(0, 1, 1);
        due("weighted by 400 percent", x.weighted(0), 4 * (1001 - 1 - 92));
        CapitalReckoner y = Samples.fresh();
        y.addExposure(3, 0, TOP, TOP, 0, 1);
        y.setWeights(3, 400, 400);
        due("the greatest weighted", y.weighted(0), 56000000);
        for (int no : new int[] {-1, 3, 8, FAR[0], FAR[1], FAR[2], FAR[3]}) {
            refused("bare of " + no, Samples::some, INDEX, z -> z.bare(no));
            refused("weighted of " + no, Samples::some, INDEX, z -> z.weighted(no));
        }
        refused("bare of none", Samples::fresh, INDEX, z -> z.bare(0));
        refused("weighted of none", Samples::fresh, INDEX, z -> z.weighted(0));
    }

    private static void promises18And19Whole() {
        CapitalReckoner x = Samples.fresh();
        x.setWeights(3, 400, 400);
        for (int e = 0; e < 8; e++) {
            x.addExposure(3, 0, TOP, TOP, 0, 1);
            due("whole", x.whole(), 56000000 * (e + 1));
            due("wholeByTrying", x.wholeByTrying(), 56000000 * (e + 1));
        }
        for (int p = 0; p < 5; p++) {
            x.addPiece(TOP, 0, 0, 1, 255);
            due("whole", x.whole(), 448000000 - 40000000 * (p + 1));
            due("wholeByTrying", x.wholeByTrying(), 448000000 - 40000000 * (p + 1));
        }
        due("wholeByTrying as the first question", Samples.some().wholeByTrying(), Samples.some().whole());
        CapitalReckoner y = Samples.fresh();
        y.addExposure(1, 0, 4, 0, 0, 1);
        y.addExposure(1, 0, 4, 0, 0, 1);
        due("each is rounded by itself", y.whole(), 0);
        y.setClass(0, 3);
        due("wholeByTrying as the first question after a change", y.wholeByTrying(), 4);
        CapitalReckoner z = Samples.fresh();
        z.addExposure(3, 0, 60, 0, 0, 1);
        z.addExposure(3, 0, 50, 0, 0, 1);
        z.addExposure(3, 0, 40, 0, 0, 1);
        z.addPiece(60, 0, 0, 1, 7);
        z.addPiece(50, 0, 0, 1, 7);
        z.addPiece(40, 0, 0, 1, 1);
        due("the best of three", z.whole(), 20);
        due("the best of three, by trying", z.wholeByTrying(), 20);
    }

    private static void promise20Worth() {
        CapitalReckoner x = Samples.fresh();
        x.addExposure(3, 0, 100, 0, 0, 1);
        x.addExposure(2, 0, 100, 0, 0, 1);
        x.addPiece(100, 0, 0, 1, 3);
        due("worth alone", x.worth(0), 100);
        x.addPiece(100, 0, 0, 1, 3);
        due("without it the other one goes to the exposure 0", x.worth(0), 50);
        due("worth of the other", x.worth(1), 50);
        x.addPiece(100, 0, 0, 1, 3);
        due("one too many", x.worth(0), 0);
        due("one too many", x.worth(2), 0);
        x.setPiece(2, 100, 0);
        due("of no use", x.worth(2), 0);
        due("the others are worth as before", x.worth(1), 50);
        due("no piece is gone", x.pieces(), 3);
        for (int no : new int[] {-1, 2, 5, FAR[0], FAR[1], FAR[2], FAR[3]}) {
            refused("worth of " + no, Samples::some, INDEX, z -> z.worth(no));
        }
        refused("worth of none", Samples::fresh, INDEX, z -> z.worth(0));
    }

    private static void promises21And22Required() {
        CapitalReckoner x = Samples.fresh();
        x.addExposure(1, 0, 101, 0, 0, 1);
        x.addExposure(1, 0, 101, 0, 0, 1);
        due("plain, each rounded by itself", x.plain(), 100);
        x.addExposure(3, 0, 1, 0, 0, 1);
        x.addPiece(1000, 0, 0, 1, 255);
        due("plain knows no collateral", x.plain(), 101);
        due("required by the floor", x.required(), 70);
        x.setFloor(99);
        due("required, rounded down", x.required(), 99);
        x.setFloor(0);
        due("required by the whole", x.required(), x.whole());
        due("the whole", x.whole(), 21);
        x.setFloor(20);
        due("the whole is the greater one", x.required(), 21);
        x.setFloor(21);
        due("both are as great", x.required(), 21);
        x.setFloor(22);
        due("the floor is the greater one", x.required(), 22);
        CapitalReckoner y = Samples.fresh();
        y.setWeights(0, 0, 400);
        for (int e = 0; e < 8; e++) {
            y.addExposure(0, 0, TOP, TOP, 0, 1);
        }
        due("the greatest plain sum", y.plain(), 448000000);
        y.setFloor(100);
        due("the greatest floor", y.required(), 448000000);
        y.setFloor(99);
        due("99 percent of it", y.required(), 443520000);
    }

    private static void promises23And24Parties() {
        CapitalReckoner x = Samples.fresh();
        x.addExposure(0, 3, 10, 0, 0, 1);
        x.addExposure(3, 1, 20, 0, 0, 1);
        x.addExposure(2, 3, 30, 5, 0, 1);
        due("party 0", x.partyBare(0), 0);
        due("party 1", x.partyBare(1), 20);
        due("party 2", x.partyBare(2), 0);
        due("party 3", x.partyBare(3), 42);
        due("all of any size, without capital", x.tooLarge(), 2 + 8);
        x.setCapital(79);
        due("20 is above a quarter of 79", x.tooLarge(), 2 + 8);
        x.setCapital(80);
        due("20 is not above a quarter of 80", x.tooLarge(), 8);
        x.setCapital(167);
        due("42 is above a quarter of 167", x.tooLarge(), 8);
        x.setCapital(168);
        due("42 is not above a quarter of 168", x.tooLarge(), 0);
        x.setCapital(0);
        x.addPiece(32, 0, 0, 1, 6);
        due("the piece goes to the party 1 first", x.partyBare(1), 0);
        due("and none of it to the party 3", x.partyBare(3), 42);
        due("the party 1 is not too large", x.tooLarge(), 8);
        due("all four parties", Samples.full().tooLarge(), 15);
        x.setPiece(0, 32, 1);
        due("partyBare as the first question after a change", x.partyBare(3), 32);
        due("and of the party that lost the piece", x.partyBare(1), 20);
        x.setPiece(0, 10, 2);
        due("partyBare as the first question after another change", x.partyBare(1), 10);
        x.setPiece(0, 32, 4);
        due("tooLarge as the first question after a change", x.tooLarge(), 2 + 8);
        due("the party 3 then", x.partyBare(3), 10);
        for (int no : new int[] {-1, 4, FAR[0], FAR[1], FAR[2], FAR[3]}) {
            refused("partyBare of " + no, INDEX, z -> z.partyBare(no));
        }
    }
}
