/** A slow reckoner for ModelTest, as plain as the document's own words and with nothing of the program's. */
final class Model {
    private final long[] weights = {0, 20, 50, 100};
    private final long[] plains = {0, 50, 100, 100};
    private long floor = 70;
    private long capital = 0;
    int exposures = 0;
    int pieces = 0;
    // An exposure: class, party, drawn, promised, currency, days, class and sum of the guarantee.
    private final long[][] e = new long[8][8];
    // A piece: amount, haircut, currency, days, uses.
    private final long[][] p = new long[5][5];
    // The best allocation, in the order of the pieces; null if something changed since.
    private int[] best = null;

    private static void index(boolean right) {
        if (!right) {
            throw new IndexOutOfBoundsException();
        }
    }

    private static void argument(boolean right) {
        if (!right) {
            throw new IllegalArgumentException();
        }
    }

    private static void state(boolean right) {
        if (!right) {
            throw new IllegalStateException();
        }
    }

    private static boolean in(long number, long low, long high) {
        return number >= low && number <= high;
    }

    int setWeights(int kind, int weight, int plain) {
        index(in(kind, 0, 3));
        argument(in(weight, 0, 400) && in(plain, 0, 400));
        long before = weights[kind];
        weights[kind] = weight;
        plains[kind] = plain;
        best = null;
        return (int) before;
    }

    int setFloor(int percent) {
        argument(in(percent, 0, 100));
        long before = floor;
        floor = percent;
        return (int) before;
    }

    int setCapital(int sum) {
        argument(in(sum, 0, 1000000000));
        long before = capital;
        capital = sum;
        return (int) before;
    }

    int addExposure(int kind, int party, int drawn, int promised, int currency, int days) {
        index(in(kind, 0, 3) && in(party, 0, 3));
        argument(in(drawn, 0, 10000000) && in(promised, 0, 10000000) && in(currency, 0, 2) && in(days, 1, 3650));
        state(exposures < 8);
        e[exposures] = new long[] {kind, party, drawn, promised, currency, days, 0, 0};
        best = null;
        return exposures++;
    }

    int draw(int exposure, int sum) {
        index(in(exposure, 0, exposures - 1));
        argument(in(sum, -10000000, 10000000));
        state(in(e[exposure][2] + sum, 0, 10000000) && in(e[exposure][3] - sum, 0, 10000000));
        e[exposure][2] += sum;
        e[exposure][3] -= sum;
        best = null;
        return (int) e[exposure][2];
    }

    int setClass(int exposure, int kind) {
        index(in(exposure, 0, exposures - 1) && in(kind, 0, 3));
        long before = e[exposure][0];
        e[exposure][0] = kind;
        best = null;
        return (int) before;
    }

    int guarantee(int exposure, int kind, int sum) {
        index(in(exposure, 0, exposures - 1) && in(kind, 0, 3));
        argument(in(sum, 0, 10000000));
        long before = e[exposure][7];
        e[exposure][6] = kind;
        e[exposure][7] = sum;
        best = null;
        return (int) before;
    }

    int amount(int exposure) {
        index(in(exposure, 0, exposures - 1));
        return (int) (e[exposure][2] + e[exposure][3] * 40 / 100);
    }

    int addPiece(int amount, int haircut, int currency, int days, int uses) {
        argument(in(amount, 1, 10000000) && in(haircut, 0, 100) && in(currency, 0, 2) && in(days, 1, 3650) && in(uses, 0, 255));
        state(pieces < 5);
        p[pieces] = new long[] {amount, haircut, currency, days, uses};
        best = null;
        return pieces++;
    }

    int setPiece(int piece, int amount, int uses) {
        index(in(piece, 0, pieces - 1));
        argument(in(amount, 1, 10000000) && in(uses, 0, 255));
        long before = p[piece][0];
        p[piece][0] = amount;
        p[piece][4] = uses;
        best = null;
        return (int) before;
    }

    int value(int piece, int exposure) {
        index(in(piece, 0, pieces - 1) && in(exposure, 0, exposures - 1));
        long value = p[piece][0] * (100 - p[piece][1]) / 100;
        if (p[piece][2] != e[exposure][4]) {
            value = value * 92 / 100;
        }
        if (p[piece][3] < e[exposure][5]) {
            value = value * p[piece][3] / e[exposure][5];
        }
        return (int) value;
    }

    private long bareBy(int[] allocation, int exposure) {
        long bare = amount(exposure);
        for (int piece = 0; piece < pieces; piece++) {
            if (allocation[piece] == exposure) {
                bare -= value(piece, exposure);
            }
        }
        return bare < 0 ? 0 : bare;
    }

    private long weightedBy(int[] allocation, int exposure) {
        long bare = bareBy(allocation, exposure);
        long own = weights[(int) e[exposure][0]];
        long other = weights[(int) e[exposure][6]];
        if (other >= own || e[exposure][7] == 0) {
            return bare * own / 100;
        }
        long part = bare < e[exposure][7] ? bare : e[exposure][7];
        return part * other / 100 + (bare - part) * own / 100;
    }

    private long wholeBy(int[] allocation) {
        long whole = 0;
        for (int exposure = 0; exposure < exposures; exposure++) {
            whole += weightedBy(allocation, exposure);
        }
        return whole;
    }

    /** All allocations in the document's order of choice, so the first of the least ones is the best. */
    private int[] bestWithout(int missing) {
        int[] allocation = new int[pieces];
        int[] found = null;
        long least = 0;
        int all = 1;
        for (int piece = 0; piece < pieces; piece++) {
            all *= exposures + 1;
        }
        for (int number = 0; number < all; number++) {
            if (spell(number, allocation, missing)) {
                long whole = wholeBy(allocation);
                if (found == null || whole < least) {
                    found = allocation.clone();
                    least = whole;
                }
            }
        }
        return found;
    }

    private boolean spell(int number, int[] allocation, int missing) {
        int rest = number;
        boolean allowed = true;
        for (int piece = pieces - 1; piece >= 0; piece--) {
            int to = rest % (exposures + 1);
            rest /= exposures + 1;
            allocation[piece] = to == exposures ? -1 : to;
            allowed &= to == exposures || piece != missing && (p[piece][4] >> to) % 2 == 1;
        }
        return allowed;
    }

    private int[] best() {
        if (best == null) {
            best = bestWithout(-1);
        }
        return best;
    }

    int givenTo(int piece) {
        index(in(piece, 0, pieces - 1));
        return best()[piece];
    }

    int bare(int exposure) {
        index(in(exposure, 0, exposures - 1));
        return (int) bareBy(best(), exposure);
    }

    int weighted(int exposure) {
        index(in(exposure, 0, exposures - 1));
        return (int) weightedBy(best(), exposure);
    }

    int whole() {
        return (int) wholeBy(best());
    }

    int worth(int piece) {
        index(in(piece, 0, pieces - 1));
        return (int) (wholeBy(bestWithout(piece)) - wholeBy(best()));
    }

    int plain() {
        long sum = 0;
        for (int exposure = 0; exposure < exposures; exposure++) {
            sum += amount(exposure) * plains[(int) e[exposure][0]] / 100;
        }
        return (int) sum;
    }

    int required() {
        long least = plain() * floor / 100;
        return whole() > least ? whole() : (int) least;
    }

    int partyBare(int party) {
        index(in(party, 0, 3));
        long sum = 0;
        for (int exposure = 0; exposure < exposures; exposure++) {
            if (e[exposure][1] == party) {
                sum += bareBy(best(), exposure);
            }
        }
        return (int) sum;
    }

    int tooLarge() {
        int set = 0;
        for (int party = 0; party < 4; party++) {
            if (4L * partyBare(party) > capital) {
                set += 1 << party;
            }
        }
        return set;
    }
}
