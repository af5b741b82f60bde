/** A reckoner of bank capital; the document ../shared/DOC.md tells what each call promises. */
public final class CapitalReckoner {
    public static final int NONE = -1;

    private static final int CLASSES = 4;
    private static final int PARTIES = 4;
    private static final int CURRENCIES = 3;
    private static final int MOST_EXPOSURES = 8;
    private static final int MOST_PIECES = 5;
    private static final int TOP_WEIGHT = 400;
    private static final int TOP_CAPITAL = 1000000000;
    private static final int TOP_SUM = 10000000;
    private static final int TOP_DAYS = 3650;
    private static final int ALL_USES = 255;
    private static final int WHOLE_PERCENT = 100;
    private static final int PROMISED_PERCENT = 40;
    private static final int OTHER_CURRENCY_PERCENT = 92;

    private final int[] weights;
    private final int[] plainWeights;
    private final Exposure[] book;
    private final Piece[] collateral;
    private final Search search;
    private int exposureCount;
    private int pieceCount;
    private int floor;
    private int capital;

    public CapitalReckoner() {
        weights = new int[] {0, 20, 50, 100};
        plainWeights = new int[] {0, 50, 100, 100};
        book = new Exposure[MOST_EXPOSURES];
        collateral = new Piece[MOST_PIECES];
        search = new Search();
        exposureCount = 0;
        pieceCount = 0;
        floor = 70;
        capital = 0;
    }

    // ---- settings

    public int setWeights(int kind, int weight, int plain)
            throws IndexOutOfBoundsException, IllegalArgumentException {
        if (!isClass(kind)) {
            throw new IndexOutOfBoundsException("no such class");
        }
        if (!isWithin(weight, 0, TOP_WEIGHT) || !isWithin(plain, 0, TOP_WEIGHT)) {
            throw new IllegalArgumentException("weight or plain is out of range");
        }
        int before = at(weights, kind);
        put(weights, kind, weight);
        put(plainWeights, kind, plain);
        return before;
    }

    public int setFloor(int percent) throws IllegalArgumentException {
        if (!isWithin(percent, 0, WHOLE_PERCENT)) {
            throw new IllegalArgumentException("percent is out of range");
        }
        int before = floor;
        floor = percent;
        return before;
    }

    public int setCapital(int sum) throws IllegalArgumentException {
        if (!isWithin(sum, 0, TOP_CAPITAL)) {
            throw new IllegalArgumentException("sum is out of range");
        }
        int before = capital;
        capital = sum;
        return before;
    }

    // ---- exposures

    public int addExposure(int kind, int party, int drawn, int promised, int currency, int days)
            throws IndexOutOfBoundsException, IllegalArgumentException, IllegalStateException {
        if (!isClass(kind) || !isParty(party)) {
            throw new IndexOutOfBoundsException("no such class or party");
        }
        if (!isPart(drawn) || !isPart(promised) || !isCurrency(currency) || !isDays(days)) {
            throw new IllegalArgumentException("drawn, promised, currency or days is out of range");
        }
        int number = exposureCount;
        if (number < 0 || number >= book.length) {
            throw new IllegalStateException("there are 8 exposures");
        }
        book[number] = new Exposure(kind, party, drawn, promised, currency, days);
        exposureCount = number + 1;
        return number;
    }

    public int draw(int exposure, int sum)
            throws IndexOutOfBoundsException, IllegalArgumentException, IllegalStateException {
        Exposure changed = exposureAt(exposure);
        if (changed == null) {
            throw new IndexOutOfBoundsException("no such exposure");
        }
        if (!isWithin(sum, -TOP_SUM, TOP_SUM)) {
            throw new IllegalArgumentException("sum is out of range");
        }
        int drawn = changed.drawn + sum;
        int promised = changed.promised - sum;
        if (!isPart(drawn) || !isPart(promised)) {
            throw new IllegalStateException("a part would be below 0 or above 10000000");
        }
        changed.drawn = drawn;
        changed.promised = promised;
        return drawn;
    }

    public int setClass(int exposure, int kind) throws IndexOutOfBoundsException {
        Exposure changed = exposureAt(exposure);
        if (changed == null || !isClass(kind)) {
            throw new IndexOutOfBoundsException("no such exposure or class");
        }
        int before = changed.kind;
        changed.kind = kind;
        return before;
    }

    public int guarantee(int exposure, int kind, int sum)
            throws IndexOutOfBoundsException, IllegalArgumentException {
        Exposure changed = exposureAt(exposure);
        if (changed == null || !isClass(kind)) {
            throw new IndexOutOfBoundsException("no such exposure or class");
        }
        if (!isPart(sum)) {
            throw new IllegalArgumentException("sum is out of range");
        }
        int before = changed.guaranteeSum;
        changed.guaranteeKind = kind;
        changed.guaranteeSum = sum;
        return before;
    }

    public int exposures() {
        return exposureCount;
    }

    public int amount(int exposure) throws IndexOutOfBoundsException {
        Exposure asked = exposureAt(exposure);
        if (asked == null) {
            throw new IndexOutOfBoundsException("no such exposure");
        }
        return asked.amountNow();
    }

    // ---- collateral

    public int addPiece(int amount, int haircut, int currency, int days, int uses)
            throws IllegalArgumentException, IllegalStateException {
        if (!isPieceSum(amount) || !isWithin(haircut, 0, WHOLE_PERCENT)
                || !isCurrency(currency) || !isDays(days) || !isUses(uses)) {
            throw new IllegalArgumentException("an argument is out of range");
        }
        int number = pieceCount;
        if (number < 0 || number >= collateral.length) {
            throw new IllegalStateException("there are 5 pieces");
        }
        collateral[number] = new Piece(amount, haircut, currency, days, uses);
        pieceCount = number + 1;
        return number;
    }

    public int setPiece(int piece, int amount, int uses)
            throws IndexOutOfBoundsException, IllegalArgumentException {
        Piece changed = pieceAt(piece);
        if (changed == null) {
            throw new IndexOutOfBoundsException("no such piece");
        }
        if (!isPieceSum(amount) || !isUses(uses)) {
            throw new IllegalArgumentException("amount or uses is out of range");
        }
        int before = changed.amount;
        changed.amount = amount;
        changed.uses = uses;
        return before;
    }

    public int pieces() {
        return pieceCount;
    }

    public int value(int piece, int exposure) throws IndexOutOfBoundsException {
        Piece given = pieceAt(piece);
        Exposure taker = exposureAt(exposure);
        if (given == null || taker == null) {
            throw new IndexOutOfBoundsException("no such piece or exposure");
        }
        return given.valueFor(taker);
    }

    // ---- the best allocation

    public int givenTo(int piece) throws IndexOutOfBoundsException {
        if (pieceAt(piece) == null) {
            throw new IndexOutOfBoundsException("no such piece");
        }
        findBest();
        return search.takerOf(piece);
    }

    public int bare(int exposure) throws IndexOutOfBoundsException {
        Exposure asked = exposureAt(exposure);
        if (asked == null) {
            throw new IndexOutOfBoundsException("no such exposure");
        }
        findBest();
        return bareWith(asked, search.givenSet(exposure));
    }

    public int weighted(int exposure) throws IndexOutOfBoundsException {
        Exposure asked = exposureAt(exposure);
        if (asked == null) {
            throw new IndexOutOfBoundsException("no such exposure");
        }
        findBest();
        return weightedOf(asked, bareWith(asked, search.givenSet(exposure)));
    }

    public int whole() {
        findBest();
        return search.bestWhole();
    }

    public int wholeByTrying() {
        fillSearch();
        return search.triedWhole();
    }

    public int worth(int piece) throws IndexOutOfBoundsException {
        if (pieceAt(piece) == null) {
            throw new IndexOutOfBoundsException("no such piece");
        }
        findBest();
        return search.wholeWithout(piece) - search.bestWhole();
    }

    // ---- sums

    public int plain() {
        int sum = 0;
        for (int number = 0; number < exposureCount; number++) {
            Exposure exposure = exposureAt(number);
            if (exposure != null) {
                sum += percentOf(exposure.amountNow(), at(plainWeights, exposure.kind));
            }
        }
        return sum;
    }

    public int required() {
        return Math.max(whole(), percentOf(plain(), floor));
    }

    public int partyBare(int party) throws IndexOutOfBoundsException {
        if (!isParty(party)) {
            throw new IndexOutOfBoundsException("no such party");
        }
        findBest();
        return bareOfParty(party);
    }

    public int tooLarge() {
        findBest();
        int set = 0;
        for (int party = 0; party < PARTIES; party++) {
            if (bareOfParty(party) > capital / 4) {
                set |= 1 << party;
            }
        }
        return set;
    }

    // ---- helpers

    private static boolean isWithin(int number, int low, int high) {
        return low <= number && number <= high;
    }

    private static boolean isClass(int kind) {
        return isWithin(kind, 0, CLASSES - 1);
    }

    private static boolean isParty(int party) {
        return isWithin(party, 0, PARTIES - 1);
    }

    private static boolean isCurrency(int currency) {
        return isWithin(currency, 0, CURRENCIES - 1);
    }

    private static boolean isDays(int days) {
        return isWithin(days, 1, TOP_DAYS);
    }

    /** A drawn or promised part, or the part that a guarantee covers. */
    private static boolean isPart(int sum) {
        return isWithin(sum, 0, TOP_SUM);
    }

    private static boolean isPieceSum(int amount) {
        return isWithin(amount, 1, TOP_SUM);
    }

    private static boolean isUses(int uses) {
        return isWithin(uses, 0, ALL_USES);
    }

    /** Whether a set has the member with a number. */
    private static boolean has(int set, int number) {
        return (set >> number & 1) != 0;
    }

    private static int at(int[] row, int index) {
        return 0 <= index && index < row.length ? row[index] : 0;
    }

    private static void put(int[] row, int index, int number) {
        if (0 <= index && index < row.length) {
            row[index] = number;
        }
    }

    /** In long, because a sum times a percentage can be above the greatest int. */
    private static int percentOf(int sum, int percent) {
        return (int) ((long) sum * percent / WHOLE_PERCENT);
    }

    private Exposure exposureAt(int number) {
        return 0 <= number && number < book.length ? book[number] : null;
    }

    private Piece pieceAt(int number) {
        return 0 <= number && number < collateral.length ? collateral[number] : null;
    }

    /** The bare part of an exposure that is given a set of pieces (bit p for the piece p). */
    private int bareWith(Exposure exposure, int set) {
        int left = exposure.amountNow();
        for (int number = 0; number < pieceCount; number++) {
            Piece piece = pieceAt(number);
            if (piece != null && has(set, number)) {
                left -= piece.valueFor(exposure);
            }
        }
        return Math.max(left, 0);
    }

    /** A guarantee that does not matter makes no part of its own: two parts would be rounded down twice. */
    private int weightedOf(Exposure exposure, int bare) {
        int own = at(weights, exposure.kind);
        int other = at(weights, exposure.guaranteeKind);
        int guaranteed = other < own ? Math.min(bare, exposure.guaranteeSum) : 0;
        return percentOf(guaranteed, other) + percentOf(bare - guaranteed, own);
    }

    /** By the allocation that findBest found last. */
    private int bareOfParty(int party) {
        int sum = 0;
        for (int number = 0; number < exposureCount; number++) {
            Exposure exposure = exposureAt(number);
            if (exposure != null && exposure.party == party) {
                sum += bareWith(exposure, search.givenSet(number));
            }
        }
        return sum;
    }

    private void findBest() {
        fillSearch();
        search.findLeast();
    }

    private void fillSearch() {
        search.begin(exposureCount, pieceCount);
        for (int number = 0; number < exposureCount; number++) {
            Exposure exposure = exposureAt(number);
            if (exposure != null) {
                search.setUsable(number, usableFor(number));
                for (int set = 0; set < Search.SETS; set++) {
                    search.setWeighted(number, set, weightedOf(exposure, bareWith(exposure, set)));
                }
            }
        }
    }

    /** The set of the pieces that can be used for an exposure. */
    private int usableFor(int exposure) {
        int set = 0;
        for (int number = 0; number < pieceCount; number++) {
            Piece piece = pieceAt(number);
            if (piece != null && has(piece.uses, exposure)) {
                set |= 1 << number;
            }
        }
        return set;
    }

    private static final class Exposure {
        private final int party;
        private final int currency;
        private final int days;
        private int kind;
        private int drawn;
        private int promised;
        private int guaranteeKind;
        private int guaranteeSum;

        private Exposure(int kind, int party, int drawn, int promised, int currency, int days) {
            this.kind = kind;
            this.party = party;
            this.drawn = drawn;
            this.promised = promised;
            this.currency = currency;
            this.days = days;
            guaranteeKind = 0;
            guaranteeSum = 0;
        }

        private int amountNow() {
            return drawn + percentOf(promised, PROMISED_PERCENT);
        }
    }

    private static final class Piece {
        private final int haircut;
        private final int currency;
        private final int days;
        private int amount;
        private int uses;

        private Piece(int amount, int haircut, int currency, int days, int uses) {
            this.amount = amount;
            this.haircut = haircut;
            this.currency = currency;
            this.days = days;
            this.uses = uses;
        }

        /** Rounded down at each step, so the order of the steps counts. */
        private int valueFor(Exposure exposure) {
            int value = percentOf(amount, WHOLE_PERCENT - haircut);
            if (currency != exposure.currency) {
                value = percentOf(value, OTHER_CURRENCY_PERCENT);
            }
            if (exposure.days > 0 && days < exposure.days) {
                value = (int) ((long) value * days / exposure.days);
            }
            return value;
        }
    }

    /**
     * The search for the best allocation. It knows of each exposure only which pieces can be used for it,
     * and what is weighted of it for each set of pieces that it may be given.
     *
     * An allocation has a key: its whole, and below it a digit for each piece, the one of the piece 0 highest,
     * that is the number of the exposure which takes the piece. The least key is so the one of the best
     * allocation, with the ties settled; and a key is a sum over exposures, so the least one can be found
     * for one exposure after the other instead of for all allocations.
     */
    private static final class Search {
        private static final int SETS = 1 << MOST_PIECES;
        private static final int DIGIT_BITS = 4;
        private static final int DIGIT_MASK = (1 << DIGIT_BITS) - 1;
        private static final int WHOLE_SHIFT = DIGIT_BITS * MOST_PIECES;
        /** Above the number of every exposure, because none comes last. */
        private static final int NONE_DIGIT = MOST_EXPOSURES;

        private final int[] usable = new int[MOST_EXPOSURES];
        private final int[] weightedBySet = new int[MOST_EXPOSURES * SETS];
        private final int[] tried = new int[MOST_EXPOSURES];
        private final long[] prices = new long[SETS];
        private final long[] least = new long[SETS];
        private int takers;
        private int gifts;

        private void begin(int exposures, int pieces) {
            takers = Math.min(exposures, MOST_EXPOSURES);
            gifts = Math.min(pieces, MOST_PIECES);
        }

        private void setUsable(int exposure, int set) {
            put(usable, exposure, set);
        }

        private void setWeighted(int exposure, int set, int weighted) {
            put(weightedBySet, exposure * SETS + set, weighted);
        }

        private int weightedWith(int exposure, int set) {
            return at(weightedBySet, exposure * SETS + set);
        }

        private static int digitShift(int piece) {
            return DIGIT_BITS * (MOST_PIECES - 1 - piece);
        }

        /** The part of a key that has the same digit for each piece of a set. */
        private static long digitsOf(int set, int digit) {
            long digits = 0;
            for (int piece = 0; piece < MOST_PIECES; piece++) {
                if (has(set, piece)) {
                    digits += (long) digit << digitShift(piece);
                }
            }
            return digits;
        }

        /** Finds, for each set of pieces, the least key of an allocation of these pieces alone. */
        private void findLeast() {
            for (int set = 0; set < least.length; set++) {
                least[set] = digitsOf(set, NONE_DIGIT);
            }
            for (int exposure = 0; exposure < takers; exposure++) {
                fillPrices(exposure);
                // Downwards: each set needs what was found for smaller ones before this exposure came in.
                for (int set = least.length - 1; set >= 0; set--) {
                    least[set] = leastOf(set, at(usable, exposure));
                }
            }
        }

        private void fillPrices(int exposure) {
            for (int set = 0; set < prices.length; set++) {
                prices[set] = ((long) weightedWith(exposure, set) << WHOLE_SHIFT) + digitsOf(set, exposure);
            }
        }

        private long leastOf(int set, int usableNow) {
            long best = priceOf(0) + leastKey(set);
            for (int given = 1; given <= set; given++) {
                if ((given & set & usableNow) == given) {
                    best = Math.min(best, priceOf(given) + leastKey(set - given));
                }
            }
            return best;
        }

        private long priceOf(int set) {
            return 0 <= set && set < prices.length ? prices[set] : 0;
        }

        private long leastKey(int set) {
            return 0 <= set && set < least.length ? least[set] : 0;
        }

        private int allGifts() {
            return (1 << gifts) - 1;
        }

        private long bestKey() {
            return leastKey(allGifts());
        }

        private int bestWhole() {
            return (int) (bestKey() >> WHOLE_SHIFT);
        }

        private int wholeWithout(int piece) {
            return (int) (leastKey(allGifts() & ~(1 << piece)) >> WHOLE_SHIFT);
        }

        private int takerOf(int piece) {
            int digit = (int) (bestKey() >> digitShift(piece)) & DIGIT_MASK;
            return digit == NONE_DIGIT ? NONE : digit;
        }

        /** The pieces that the best allocation gives to an exposure. */
        private int givenSet(int exposure) {
            int set = 0;
            for (int piece = 0; piece < gifts; piece++) {
                if (takerOf(piece) == exposure) {
                    set |= 1 << piece;
                }
            }
            return set;
        }

        private int triedWhole() {
            int sum = 0;
            for (int exposure = 0; exposure < takers; exposure++) {
                put(tried, exposure, 0);
                sum += weightedWith(exposure, 0);
            }
            return tryFrom(this, 0, sum);
        }

        /** Tries each place for a piece and for all behind it; sum is the whole as the pieces before it are given. */
        private static int tryFrom(Search search, int piece, int sum) {
            if (piece < 0 || piece >= search.gifts) {
                return sum;
            }
            int best = tryFrom(search, piece + 1, sum);
            for (int exposure = 0; exposure < search.takers; exposure++) {
                if (has(at(search.usable, exposure), piece)) {
                    int before = at(search.tried, exposure);
                    int after = before | (1 << piece);
                    int change = search.weightedWith(exposure, after) - search.weightedWith(exposure, before);
                    put(search.tried, exposure, after);
                    best = Math.min(best, tryFrom(search, piece + 1, sum + change));
                    put(search.tried, exposure, before);
                }
            }
            return best;
        }
    }
}
