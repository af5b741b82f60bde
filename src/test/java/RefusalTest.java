import java.util.function.ToIntFunction;

/**
 * Calls that could be refused for several reasons: the exception that the throws clause lists first is thrown.
 * And calls that are refused, by each reason: they change nothing, whatever else they were told to change.
 */
public final class RefusalTest {
    private static final int TOP = Samples.TOP;
    private static final int MIN = Integer.MIN_VALUE;
    private static final int MAX = Integer.MAX_VALUE;
    private static final Checks CHECKS = new Checks();

    public static void main(String[] args) {
        promise2SetWeights();
        promise5Order();
        promise5OrderOfEight();
        promise6Order();
        promise7SetClass();
        promise8Order();
        promise11Order();
        promise12Order();
        promise14Value();
        settingsThatStay();
        exposuresThatStay();
        piecesThatStay();
        afterARefusal();
        CHECKS.end("RefusalTest");
    }

    private static void index(String what, ToIntFunction<CapitalReckoner> call) {
        everywhere(what, Checks.INDEX, call);
    }

    private static void argument(String what, ToIntFunction<CapitalReckoner> call) {
        everywhere(what, Checks.ARGUMENT, call);
    }

    private static void everywhere(String what, Class<? extends RuntimeException> want, ToIntFunction<CapitalReckoner> call) {
        CHECKS.refused(what + ", of nothing", Samples::fresh, want, call);
        CHECKS.refused(what + ", of some", Samples::some, want, call);
        CHECKS.refused(what + ", of all", Samples::full, want, call);
    }

    private static void ofSome(String what, Class<? extends RuntimeException> want, ToIntFunction<CapitalReckoner> call) {
        CHECKS.refused(what, Samples::some, want, call);
    }

    private static void ofFull(String what, Class<? extends RuntimeException> want, ToIntFunction<CapitalReckoner> call) {
        CHECKS.refused(what, Samples::full, want, call);
    }

    private static void promise2SetWeights() {
        index("promise 2: no such class, before the weight", x -> x.setWeights(4, 401, 7));
        index("promise 2: no such class, before the plain weight", x -> x.setWeights(-1, 7, -1));
        index("promise 2: no such class, before both", x -> x.setWeights(MIN, MAX, MIN));
        argument("promise 2: both weights", x -> x.setWeights(3, 401, -1));
    }

    private static void promise5Order() {
        index("promise 5: class and party", x -> x.addExposure(4, 4, 9, 9, 1, 9));
        index("promise 5: class, before drawn", x -> x.addExposure(4, 1, -1, 9, 1, 9));
        index("promise 5: class, before promised", x -> x.addExposure(-1, 1, 9, TOP + 1, 1, 9));
        index("promise 5: class, before currency", x -> x.addExposure(4, 1, 9, 9, 3, 9));
        index("promise 5: class, before days", x -> x.addExposure(-1, 1, 9, 9, 1, 0));
        index("promise 5: party, before drawn", x -> x.addExposure(1, 4, TOP + 1, 9, 1, 9));
        index("promise 5: party, before promised", x -> x.addExposure(1, -1, 9, -1, 1, 9));
        index("promise 5: party, before currency", x -> x.addExposure(1, 4, 9, 9, -1, 9));
        index("promise 5: party, before days", x -> x.addExposure(1, -1, 9, 9, 1, 3651));
        index("promise 5: all arguments", x -> x.addExposure(MIN, MAX, MIN, MAX, MIN, MAX));
        argument("promise 5: drawn, promised, currency and days", x -> x.addExposure(1, 1, MIN, MAX, MIN, MAX));
    }

    private static void promise5OrderOfEight() {
        ofFull("promise 5: a ninth one, nothing else", Checks.STATE, x -> x.addExposure(1, 1, 9, 9, 1, 9));
        ofFull("promise 5: class, before a ninth one", Checks.INDEX, x -> x.addExposure(4, 1, 9, 9, 1, 9));
        ofFull("promise 5: party, before a ninth one", Checks.INDEX, x -> x.addExposure(1, -1, 9, 9, 1, 9));
        ofFull("promise 5: drawn, before a ninth one", Checks.ARGUMENT, x -> x.addExposure(1, 1, -1, 9, 1, 9));
        ofFull("promise 5: promised, before a ninth one", Checks.ARGUMENT, x -> x.addExposure(1, 1, 9, TOP + 1, 1, 9));
        ofFull("promise 5: currency, before a ninth one", Checks.ARGUMENT, x -> x.addExposure(1, 1, 9, 9, 3, 9));
        ofFull("promise 5: days, before a ninth one", Checks.ARGUMENT, x -> x.addExposure(1, 1, 9, 9, 1, 0));
        ofFull("promise 5: all three reasons", Checks.INDEX, x -> x.addExposure(4, 1, -1, 9, 1, 9));
    }

    private static void promise6Order() {
        ofSome("promise 6: exposure, before the sum", Checks.INDEX, x -> x.draw(3, TOP + 1));
        ofSome("promise 6: exposure, before the sum given back", Checks.INDEX, x -> x.draw(-1, -TOP - 1));
        ofSome("promise 6: exposure, before the parts", Checks.INDEX, x -> x.draw(3, TOP));
        ofSome("promise 6: the sum, before the promised part below 0", Checks.ARGUMENT, x -> x.draw(0, TOP + 1));
        ofSome("promise 6: the sum, before the drawn part below 0", Checks.ARGUMENT, x -> x.draw(0, -TOP - 1));
        ofSome("promise 6: the sum, which would wrap around", Checks.ARGUMENT, x -> x.draw(0, MAX));
        ofSome("promise 6: the sum, which has no opposite", Checks.ARGUMENT, x -> x.draw(0, MIN));
        index("promise 6: all reasons", x -> x.draw(8, MAX));
    }

    private static void promise7SetClass() {
        index("promise 7: exposure and class", x -> x.setClass(8, 4));
        index("promise 7: exposure alone", x -> x.setClass(-1, 2));
    }

    private static void promise8Order() {
        index("promise 8: exposure, before the sum", x -> x.guarantee(8, 1, -1));
        index("promise 8: exposure and class, before the sum", x -> x.guarantee(-1, 4, TOP + 1));
        ofSome("promise 8: class, before the sum", Checks.INDEX, x -> x.guarantee(2, 4, TOP + 1));
        ofSome("promise 8: class, before the sum below 0", Checks.INDEX, x -> x.guarantee(2, -1, -1));
        ofSome("promise 8: class, even for none", Checks.INDEX, x -> x.guarantee(2, 4, 0));
    }

    private static void promise11Order() {
        ofFull("promise 11: a sixth one, nothing else", Checks.STATE, x -> x.addPiece(7, 7, 1, 9, 1));
        ofFull("promise 11: amount, before a sixth one", Checks.ARGUMENT, x -> x.addPiece(0, 7, 1, 9, 1));
        ofFull("promise 11: haircut, before a sixth one", Checks.ARGUMENT, x -> x.addPiece(7, 101, 1, 9, 1));
        ofFull("promise 11: currency, before a sixth one", Checks.ARGUMENT, x -> x.addPiece(7, 7, 3, 9, 1));
        ofFull("promise 11: days, before a sixth one", Checks.ARGUMENT, x -> x.addPiece(7, 7, 1, 0, 1));
        ofFull("promise 11: uses, before a sixth one", Checks.ARGUMENT, x -> x.addPiece(7, 7, 1, 9, 256));
        argument("promise 11: all arguments", x -> x.addPiece(MIN, MAX, MIN, MAX, MIN));
    }

    private static void promise12Order() {
        index("promise 12: piece, before the amount", x -> x.setPiece(5, 0, 1));
        index("promise 12: piece, before the set", x -> x.setPiece(-1, 7, 256));
        index("promise 12: piece, before both", x -> x.setPiece(5, TOP + 1, -1));
        ofSome("promise 12: amount and set", Checks.ARGUMENT, x -> x.setPiece(0, 0, 256));
    }

    private static void promise14Value() {
        index("promise 14: piece and exposure", x -> x.value(5, 8));
        ofSome("promise 14: piece alone", Checks.INDEX, x -> x.value(2, 0));
        ofSome("promise 14: exposure alone", Checks.INDEX, x -> x.value(0, 3));
    }

    private static void settingsThatStay() {
        ofSome("promise 2: the weight stays, if plain is too small", Checks.ARGUMENT, x -> x.setWeights(1, 33, -1));
        ofSome("promise 2: the weight stays, if plain is too great", Checks.ARGUMENT, x -> x.setWeights(2, 33, 401));
        ofSome("promise 2: the plain weight stays, if the weight is too small", Checks.ARGUMENT, x -> x.setWeights(3, -1, 33));
        ofSome("promise 2: the plain weight stays, if the weight is too great", Checks.ARGUMENT, x -> x.setWeights(0, 401, 33));
        ofSome("promise 3: the floor stays", Checks.ARGUMENT, x -> x.setFloor(101));
        ofSome("promise 4: the capital stays", Checks.ARGUMENT, x -> x.setCapital(-1));
    }

    private static void exposuresThatStay() {
        ofSome("promise 5: no exposure more, by the class", Checks.INDEX, x -> x.addExposure(4, 1, 9, 9, 1, 9));
        ofSome("promise 5: no exposure more, by the days", Checks.ARGUMENT, x -> x.addExposure(1, 1, 9, 9, 1, 3651));
        ofFull("promise 5: the eight stay as they are", Checks.STATE, x -> x.addExposure(3, 3, TOP, TOP, 2, 3650));
        ofSome("promise 6: the drawn part stays, if the promised one can't change", Checks.STATE, x -> x.draw(0, 501));
        ofSome("promise 6: the promised part stays, if the drawn one can't change", Checks.STATE, x -> x.draw(0, -1001));
        ofSome("promise 6: the drawn part stays, if too much would be promised", Checks.STATE, x -> x.draw(2, -1));
        ofSome("promise 6: the promised part stays, if too much would be drawn", Checks.STATE, x -> x.draw(2, TOP - 299));
        ofSome("promise 7: the class stays", Checks.INDEX, x -> x.setClass(1, 4));
        ofSome("promise 8: the class of the guarantee stays, if the sum is refused", Checks.ARGUMENT, x -> x.guarantee(2, 0, -1));
        ofSome("promise 8: the same, if the sum is too great", Checks.ARGUMENT, x -> x.guarantee(2, 2, TOP + 1));
        ofSome("promise 8: the sum stays, if the class is refused", Checks.INDEX, x -> x.guarantee(2, 4, 99));
        ofSome("promise 8: no guarantee comes, if it is refused", Checks.INDEX, x -> x.guarantee(1, -1, 99));
    }

    private static void piecesThatStay() {
        ofSome("promise 11: no piece more", Checks.ARGUMENT, x -> x.addPiece(700, 0, 1, 900, 256));
        ofFull("promise 11: the five stay as they are", Checks.STATE, x -> x.addPiece(TOP, 0, 2, 3650, 255));
        ofSome("promise 12: the amount stays, if the set is too small", Checks.ARGUMENT, x -> x.setPiece(0, 4000, -1));
        ofSome("promise 12: the amount stays, if the set is too great", Checks.ARGUMENT, x -> x.setPiece(0, 4000, 256));
        ofSome("promise 12: the set stays, if the amount is too small", Checks.ARGUMENT, x -> x.setPiece(0, 0, 2));
        ofSome("promise 12: the set stays, if the amount is too great", Checks.ARGUMENT, x -> x.setPiece(1, TOP + 1, 1));
    }

    /** The next number is the one that the refused call would have got. */
    private static void afterARefusal() {
        CapitalReckoner x = Samples.some();
        CHECKS.due("an exposure refused", Checks.answer(() -> x.addExposure(1, 1, 9, 9, 1, 0)), "throws IllegalArgumentException");
        CHECKS.taken("promise 5: the next number", x, y -> y.addExposure(1, 1, 9, 9, 1, 9), 3);
        CHECKS.due("a piece refused", Checks.answer(() -> x.addPiece(7, 7, 3, 9, 1)), "throws IllegalArgumentException");
        CHECKS.taken("promise 11: the next number", x, y -> y.addPiece(7, 7, 1, 9, 1), 2);
        CHECKS.due("a draw refused", Checks.answer(() -> x.draw(3, 10)), "throws IllegalStateException");
        CHECKS.taken("promise 6: all of the promised part is there yet", x, y -> y.draw(3, 9), 18);
    }
}
