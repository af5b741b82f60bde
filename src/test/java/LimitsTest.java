import java.util.function.ToIntFunction;

/**
 * For each argument of a call: the least and the greatest number that it takes, each with what it does,
 * and the next one beyond each, which is refused and changes nothing.
 */
public final class LimitsTest {
    private static final int TOP = Samples.TOP;
    private static final int NONE = CapitalReckoner.NONE;
    private static final Checks CHECKS = new Checks();

    public static void main(String[] args) {
        promise2SetWeights();
        promise3SetFloor();
        promise4SetCapital();
        promise5Places();
        promise5Parts();
        promise5CurrencyAndDays();
        promise6DrawSum();
        promise6DrawParts();
        promise7SetClass();
        promise8Guarantee();
        promise11AmountAndHaircut();
        promise11CurrencyAndDays();
        promise11Uses();
        promise12SetPiece();
        promise23Party();
        numbersOfExposures();
        numbersOfPieces();
        CHECKS.end("LimitsTest");
    }

    private interface Numbered {
        int ask(CapitalReckoner x, int number);
    }

    /** On a new reckoner with the exposure and the piece of Samples.loan. */
    private static void taken(String what, int want, ToIntFunction<CapitalReckoner> call) {
        CHECKS.taken(what, Samples.loan(), call, want);
    }

    private static void beyond(String what, int least, int greatest, Class<? extends RuntimeException> want, Numbered call) {
        beyond(what, Samples::loan, least, greatest, want, call);
        beyond(what + ", of three exposures", Samples::some, least, greatest, want, call);
    }

    /** The next number beyond each limit, and far ones, some of which come into the range if their high bits are lost. */
    private static void beyond(String what, Checks.Maker maker, int least, int greatest,
            Class<? extends RuntimeException> want, Numbered call) {
        CHECKS.refused(what + ", below the least", maker, want, x -> call.ask(x, least - 1));
        CHECKS.refused(what + ", above the greatest", maker, want, x -> call.ask(x, greatest + 1));
        int[] far = {Integer.MIN_VALUE, Integer.MAX_VALUE, least - 256, greatest + 256, least - 65536, greatest + 65536,
            Integer.MIN_VALUE + least, Integer.MIN_VALUE + greatest};
        for (int number : far) {
            CHECKS.refused(what + ", far out: " + number, maker, want, x -> call.ask(x, number));
        }
    }

    private static int last(int... answers) {
        return answers[answers.length - 1];
    }

    private static void promise2SetWeights() {
        taken("promise 2: the least class", 0, x -> x.setWeights(0, 7, 7));
        taken("promise 2: the greatest class", 100, x -> x.setWeights(3, 7, 7));
        beyond("promise 2: class", 0, 3, Checks.INDEX, (x, kind) -> x.setWeights(kind, 7, 7));
        taken("promise 2: the least weight", 0, x -> last(x.setWeights(3, 0, 7), x.weighted(0)));
        taken("promise 2: the greatest weight", 4400, x -> last(x.setWeights(3, 400, 7), x.weighted(0)));
        taken("promise 2: the least weight, as the one before", 0, x -> last(x.setWeights(3, 0, 7), x.setWeights(3, 1, 7)));
        taken("promise 2: the greatest, as the one before", 400, x -> last(x.setWeights(3, 400, 7), x.setWeights(3, 1, 7)));
        beyond("promise 2: weight", 0, 400, Checks.ARGUMENT, (x, weight) -> x.setWeights(3, weight, 7));
        taken("promise 2: the least plain weight", 0, x -> last(x.setWeights(3, 7, 0), x.plain()));
        taken("promise 2: the greatest plain weight", 4800, x -> last(x.setWeights(3, 7, 400), x.plain()));
        beyond("promise 2: plain", 0, 400, Checks.ARGUMENT, (x, plain) -> x.setWeights(3, 7, plain));
    }

    private static void promise3SetFloor() {
        taken("promise 3: the first floor", 70, x -> x.setFloor(1));
        taken("promise 3: the least floor", 0, x -> last(x.setFloor(0), x.setFloor(1)));
        taken("promise 3: the greatest floor", 100, x -> last(x.setFloor(100), x.setFloor(1)));
        taken("promise 3: by the least floor the whole is required", 1100, x -> last(x.setFloor(0), x.required()));
        taken("promise 3: by the greatest one all of the plain sum", 1200, x -> last(x.setFloor(100), x.required()));
        beyond("promise 3: percent", 0, 100, Checks.ARGUMENT, (x, percent) -> x.setFloor(percent));
    }

    private static void promise4SetCapital() {
        taken("promise 4: the first capital", 0, x -> x.setCapital(1));
        taken("promise 4: the least capital", 0, x -> last(x.setCapital(0), x.setCapital(1)));
        taken("promise 4: the greatest capital", 1000000000, x -> last(x.setCapital(1000000000), x.setCapital(1)));
        taken("promise 4: by the least capital all are too large", 1, x -> last(x.setCapital(0), x.tooLarge()));
        taken("promise 4: by the greatest one none is", 0, x -> last(x.setCapital(1000000000), x.tooLarge()));
        beyond("promise 4: sum", 0, 1000000000, Checks.ARGUMENT, (x, sum) -> x.setCapital(sum));
    }

    private static void promise5Places() {
        taken("promise 5: the least class", 0, x -> x.setClass(x.addExposure(0, 1, 9, 9, 1, 9), 1));
        taken("promise 5: the greatest class", 3, x -> x.setClass(x.addExposure(3, 1, 9, 9, 1, 9), 1));
        beyond("promise 5: class", 0, 3, Checks.INDEX, (x, kind) -> x.addExposure(kind, 1, 9, 9, 1, 9));
        taken("promise 5: the least party", 1100 + 12, x -> last(x.addExposure(3, 0, 9, 9, 1, 9), x.partyBare(0)));
        taken("promise 5: the greatest party", 12, x -> last(x.addExposure(3, 3, 9, 9, 1, 9), x.partyBare(3)));
        beyond("promise 5: party", 0, 3, Checks.INDEX, (x, party) -> x.addExposure(1, party, 9, 9, 1, 9));
    }

    private static void promise5Parts() {
        taken("promise 5: the least drawn part", 3, x -> x.amount(x.addExposure(1, 1, 0, 9, 1, 9)));
        taken("promise 5: the greatest drawn part", TOP + 3, x -> x.amount(x.addExposure(1, 1, TOP, 9, 1, 9)));
        beyond("promise 5: drawn", 0, TOP, Checks.ARGUMENT, (x, drawn) -> x.addExposure(1, 1, drawn, 9, 1, 9));
        taken("promise 5: the least promised part", 9, x -> x.amount(x.addExposure(1, 1, 9, 0, 1, 9)));
        taken("promise 5: the greatest promised part", 4000009, x -> x.amount(x.addExposure(1, 1, 9, TOP, 1, 9)));
        beyond("promise 5: promised", 0, TOP, Checks.ARGUMENT, (x, promised) -> x.addExposure(1, 1, 9, promised, 1, 9));
        taken("promise 5: both parts the least", 0, x -> x.amount(x.addExposure(1, 1, 0, 0, 1, 9)));
        taken("promise 5: both parts the greatest", 14000000, x -> x.amount(x.addExposure(1, 1, TOP, TOP, 1, 9)));
    }

    private static void promise5CurrencyAndDays() {
        taken("promise 5: the least currency", 100, x -> x.value(0, x.addExposure(1, 1, 9, 9, 0, 9)));
        taken("promise 5: the greatest currency", 92, x -> x.value(0, x.addExposure(1, 1, 9, 9, 2, 9)));
        taken("promise 5: the greatest currency is one of its own", 500,
            x -> x.value(x.addPiece(500, 0, 2, 9, 0), x.addExposure(1, 1, 9, 9, 2, 9)));
        beyond("promise 5: currency", 0, 2, Checks.ARGUMENT, (x, currency) -> x.addExposure(1, 1, 9, 9, currency, 9));
        taken("promise 5: the least days", 500, x -> x.value(x.addPiece(500, 0, 0, 1, 0), x.addExposure(1, 1, 9, 9, 0, 1)));
        taken("promise 5: the greatest days", 100 * 100 / 3650, x -> x.value(0, x.addExposure(1, 1, 9, 9, 0, 3650)));
        beyond("promise 5: days", 1, 3650, Checks.ARGUMENT, (x, days) -> x.addExposure(1, 1, 9, 9, 1, days));
    }

    private static void promise6DrawSum() {
        taken("promise 6: the greatest sum", TOP, x -> x.draw(x.addExposure(1, 1, 0, TOP, 1, 9), TOP));
        taken("promise 6: the least sum", 0, x -> x.draw(x.addExposure(1, 1, TOP, 0, 1, 9), -TOP));
        taken("promise 6: the sum 0", 1000, x -> x.draw(0, 0));
        beyond("promise 6: sum", -TOP, TOP, Checks.ARGUMENT, (x, sum) -> x.draw(0, sum));
        beyond("promise 6: sum, of nothing drawn and all promised", () -> parts(0, TOP), -TOP, TOP, Checks.ARGUMENT,
            (x, sum) -> x.draw(0, sum));
        beyond("promise 6: sum, of all drawn and nothing promised", () -> parts(TOP, 0), -TOP, TOP, Checks.ARGUMENT,
            (x, sum) -> x.draw(0, sum));
    }

    private static CapitalReckoner parts(int drawn, int promised) {
        CapitalReckoner x = new CapitalReckoner();
        x.addExposure(3, 0, drawn, promised, 0, 1);
        return x;
    }

    /** Each of the four bounds is met where no other one is near. */
    private static void promise6DrawParts() {
        CHECKS.taken("promise 6: the promised part to 0", parts(50, 30), x -> x.draw(0, 30), 80);
        CHECKS.taken("promise 6: the promised part is 0 then", parts(50, 30), x -> last(x.draw(0, 30), x.amount(0)), 80);
        CHECKS.refused("promise 6: the promised part below 0", () -> parts(50, 30), Checks.STATE, x -> x.draw(0, 31));
        CHECKS.taken("promise 6: the drawn part to 0", parts(50, 30), x -> x.draw(0, -50), 0);
        CHECKS.taken("promise 6: the promised part is 80 then", parts(50, 30), x -> last(x.draw(0, -50), x.amount(0)), 32);
        CHECKS.refused("promise 6: the drawn part below 0", () -> parts(50, 30), Checks.STATE, x -> x.draw(0, -51));
        CHECKS.taken("promise 6: the drawn part to 10000000", parts(TOP - 50, 90), x -> x.draw(0, 50), TOP);
        CHECKS.refused("promise 6: the drawn part above it", () -> parts(TOP - 50, 90), Checks.STATE, x -> x.draw(0, 51));
        CHECKS.taken("promise 6: the promised part to 10000000", parts(90, TOP - 50), x -> x.draw(0, -50), 40);
        CHECKS.refused("promise 6: the promised part above it", () -> parts(90, TOP - 50), Checks.STATE, x -> x.draw(0, -51));
        CHECKS.refused("promise 6: both parts out, upwards", () -> parts(TOP, 0), Checks.STATE, x -> x.draw(0, TOP));
        CHECKS.refused("promise 6: both parts out, downwards", () -> parts(0, TOP), Checks.STATE, x -> x.draw(0, -TOP));
    }

    private static void promise7SetClass() {
        taken("promise 7: the least class", 0, x -> last(x.setClass(0, 0), x.setClass(0, 1)));
        taken("promise 7: the greatest class", 3, x -> last(x.setClass(0, 3), x.setClass(0, 1)));
        taken("promise 7: the weight of the least class", 0, x -> last(x.setClass(0, 0), x.whole()));
        taken("promise 7: the weight of the greatest class", 1100, x -> last(x.setClass(0, 3), x.whole()));
        beyond("promise 7: class", 0, 3, Checks.INDEX, (x, kind) -> x.setClass(0, kind));
    }

    private static void promise8Guarantee() {
        taken("promise 8: the least class", 1000, x -> last(x.guarantee(0, 0, 100), x.weighted(0)));
        taken("promise 8: the greatest class", 510,
            x -> last(x.setClass(0, 2), x.setWeights(3, 10, 7), x.guarantee(0, 3, 100), x.weighted(0)));
        beyond("promise 8: class", 0, 3, Checks.INDEX, (x, kind) -> x.guarantee(0, kind, 100));
        taken("promise 8: the least sum", 1100, x -> last(x.guarantee(0, 0, 0), x.weighted(0)));
        taken("promise 8: the least sum, as the one before", 0, x -> last(x.guarantee(0, 0, 0), x.guarantee(0, 0, 5)));
        taken("promise 8: the greatest sum", 0, x -> last(x.guarantee(0, 0, TOP), x.weighted(0)));
        taken("promise 8: the greatest sum, as the one before", TOP, x -> last(x.guarantee(0, 0, TOP), x.guarantee(0, 0, 5)));
        beyond("promise 8: sum", 0, TOP, Checks.ARGUMENT, (x, sum) -> x.guarantee(0, 0, sum));
    }

    private static void promise11AmountAndHaircut() {
        taken("promise 11: the least amount", 1, x -> x.value(x.addPiece(1, 0, 0, 900, 1), 0));
        taken("promise 11: the greatest amount", TOP, x -> x.value(x.addPiece(TOP, 0, 0, 900, 1), 0));
        beyond("promise 11: amount", 1, TOP, Checks.ARGUMENT, (x, amount) -> x.addPiece(amount, 0, 0, 900, 1));
        taken("promise 11: the least haircut", 700, x -> x.value(x.addPiece(700, 0, 0, 900, 1), 0));
        taken("promise 11: the greatest haircut", 0, x -> x.value(x.addPiece(TOP, 100, 0, 900, 1), 0));
        beyond("promise 11: haircut", 0, 100, Checks.ARGUMENT, (x, haircut) -> x.addPiece(700, haircut, 0, 900, 1));
    }

    private static void promise11CurrencyAndDays() {
        taken("promise 11: the least currency", 700, x -> x.value(x.addPiece(700, 0, 0, 900, 1), 0));
        taken("promise 11: the greatest currency", 644, x -> x.value(x.addPiece(700, 0, 2, 900, 1), 0));
        beyond("promise 11: currency", 0, 2, Checks.ARGUMENT, (x, currency) -> x.addPiece(700, 0, currency, 900, 1));
        taken("promise 11: the least days", 7, x -> x.value(x.addPiece(700, 0, 0, 1, 1), 0));
        taken("promise 11: the greatest days", 700,
            x -> x.value(x.addPiece(700, 0, 0, 3650, 1), x.addExposure(1, 1, 9, 9, 0, 3650)));
        beyond("promise 11: days", 1, 3650, Checks.ARGUMENT, (x, days) -> x.addPiece(700, 0, 0, days, 1));
    }

    private static void promise11Uses() {
        taken("promise 11: the least set", NONE, x -> x.givenTo(x.addPiece(700, 0, 0, 900, 0)));
        taken("promise 11: the greatest set", 0, x -> x.givenTo(x.addPiece(700, 0, 0, 900, 255)));
        beyond("promise 11: uses", 0, 255, Checks.ARGUMENT, (x, uses) -> x.addPiece(700, 0, 0, 900, uses));
    }

    private static void promise12SetPiece() {
        taken("promise 12: the least amount", 1, x -> last(x.setPiece(0, 1, 1), x.value(0, 0)));
        taken("promise 12: the greatest amount", TOP, x -> last(x.setPiece(0, TOP, 1), x.value(0, 0)));
        taken("promise 12: the least amount, as the one before", 1, x -> last(x.setPiece(0, 1, 1), x.setPiece(0, 5, 1)));
        taken("promise 12: the greatest one, as the one before", TOP, x -> last(x.setPiece(0, TOP, 1), x.setPiece(0, 5, 1)));
        beyond("promise 12: amount", 1, TOP, Checks.ARGUMENT, (x, amount) -> x.setPiece(0, amount, 1));
        taken("promise 12: the least set", NONE, x -> last(x.setPiece(0, 100, 0), x.givenTo(0)));
        taken("promise 12: the greatest set", 0, x -> last(x.setPiece(0, 100, 255), x.givenTo(0)));
        beyond("promise 12: uses", 0, 255, Checks.ARGUMENT, (x, uses) -> x.setPiece(0, 100, uses));
    }

    private static void promise23Party() {
        taken("promise 23: the least party", 1100, x -> x.partyBare(0));
        taken("promise 23: the greatest party", 0, x -> x.partyBare(3));
        CHECKS.taken("promise 23: the greatest party, with an exposure", Samples.some(), x -> x.partyBare(3), Samples.some().bare(2));
        beyond("promise 23: party", 0, 3, Checks.INDEX, CapitalReckoner::partyBare);
        beyond("promise 23: party, of nothing", Samples::fresh, 0, 3, Checks.INDEX, CapitalReckoner::partyBare);
        beyond("promise 23: party, of all", Samples::full, 0, 3, Checks.INDEX, CapitalReckoner::partyBare);
    }

    /** The last one that there is, and the next one, with no exposure, with three, and with eight. */
    private static void exposure(String what, int ofSome, int ofFull, Numbered call) {
        CHECKS.taken(what + ", the last of three", Samples.some(), x -> call.ask(x, 2), ofSome);
        CHECKS.taken(what + ", the last of eight", Samples.full(), x -> call.ask(x, 7), ofFull);
        beyond(what + ", one of none", Samples::fresh, 0, -1, Checks.INDEX, call);
        beyond(what + ", one of three", Samples::some, 0, 2, Checks.INDEX, call);
        beyond(what + ", one of eight", Samples::full, 0, 7, Checks.INDEX, call);
    }

    private static void numbersOfExposures() {
        exposure("promise 6: exposure", 301, 801, (x, e) -> x.draw(e, 1));
        exposure("promise 7: exposure", 3, 3, (x, e) -> x.setClass(e, 1));
        exposure("promise 8: exposure", 77, 0, (x, e) -> x.guarantee(e, 1, 1));
        exposure("promise 10: exposure", 4000300, 828, CapitalReckoner::amount);
        exposure("promise 14: exposure", 55, 38, (x, e) -> x.value(0, e));
        exposure("promise 16: exposure", 4000300 - 55 - 441, 828 - 84, CapitalReckoner::bare);
        exposure("promise 17: exposure", 15 + 3999727, 828 - 84, CapitalReckoner::weighted);
    }

    /** The last one that there is, and the next one, with no piece, with two, and with five. */
    private static void piece(String what, int ofSome, int ofFull, Numbered call) {
        CHECKS.taken(what + ", the last of two", Samples.some(), x -> call.ask(x, 1), ofSome);
        CHECKS.taken(what + ", the last of five", Samples.full(), x -> call.ask(x, 4), ofFull);
        beyond(what + ", one of none", Samples::fresh, 0, -1, Checks.INDEX, call);
        beyond(what + ", one of two", Samples::some, 0, 1, Checks.INDEX, call);
        beyond(what + ", one of five", Samples::full, 0, 4, Checks.INDEX, call);
    }

    private static void numbersOfPieces() {
        piece("promise 12: piece", 600, 94, (x, p) -> x.setPiece(p, 1, 1));
        piece("promise 14: piece", 441, 82, (x, p) -> x.value(p, 0));
        piece("promise 15: piece", 2, 7, CapitalReckoner::givenTo);
        piece("promise 20: piece", 441, 84, CapitalReckoner::worth);
    }
}
