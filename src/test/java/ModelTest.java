/**
 * Runs of calls with made-up arguments, each answer beside the one of a slow reading of the document:
 * Model tries every allocation and keeps the first of the best ones.
 */
public final class ModelTest {
    private static final int RUNS = 240;
    private static final int CALLS = 250;
    private static final Checks CHECKS = new Checks();
    private static long seed = 20261119;

    public static void main(String[] args) {
        for (int run = 0; run < RUNS; run++) {
            goThrough(run, new CapitalReckoner(), new Model());
        }
        CHECKS.end("ModelTest");
    }

    /** The next number of a fixed row, 0 to below - 1. */
    private static int next(int below) {
        seed = seed * 6364136223846793005L + 1442695040888963407L;
        return (int) ((seed >>> 33) % below);
    }

    /** Mostly small sums, so that ties and roundings come up often. */
    private static int sum(int size) {
        int top = size == 0 ? 12 : size == 1 ? 1000 : 10000000;
        return next(20) == 0 ? next(3) == 0 ? 10000000 : -1 : next(top + 1);
    }

    private static int bound(int count) {
        return next(20) == 0 ? next(2) * (count + 1) - 1 : next(count < 1 ? 1 : count);
    }

    private static int percent(int top) {
        return next(30) == 0 ? next(2) * (top + 2) - 1 : next(4) == 0 ? next(top + 1) : next(11) * 10;
    }

    private static int days() {
        return next(30) == 0 ? next(2) * 3651 : 1 + next(next(3) == 0 ? 3650 : 4);
    }

    private static int uses() {
        return next(30) == 0 ? next(2) * 257 - 1 : next(2) == 0 ? 255 : next(256);
    }

    private static void goThrough(int run, CapitalReckoner x, Model m) {
        int size = run % 3;
        for (int call = 0; call < CALLS; call++) {
            String where = "run " + run + ", call " + call;
            if (next(3) == 0 || call < 12) {
                change(where, x, m, size);
            } else {
                ask(where, x, m);
            }
        }
    }

    private static void due(String where, String call, Checks.Call got, Checks.Call want) {
        CHECKS.due(where + " " + call, Checks.answer(got), Checks.answer(want));
    }

    private static void change(String where, CapitalReckoner x, Model m, int size) {
        int e = bound(m.exposures);
        int p = bound(m.pieces);
        int kind = bound(4);
        int party = bound(4);
        int currency = bound(3);
        int days = days();
        int a = sum(size);
        int b = sum(size);
        int c = percent(100);
        int w = percent(400);
        int v = percent(400);
        int u = uses();
        switch (next(12)) {
            case 0 -> due(where, "setWeights", () -> x.setWeights(kind, w, v), () -> m.setWeights(kind, w, v));
            case 1 -> due(where, "setFloor", () -> x.setFloor(c), () -> m.setFloor(c));
            case 2 -> due(where, "setCapital", () -> x.setCapital(4 * a), () -> m.setCapital(4 * a));
            case 3, 4 -> due(where, "addExposure", () -> x.addExposure(kind, party, a, b, currency, days),
                    () -> m.addExposure(kind, party, a, b, currency, days));
            case 5 -> due(where, "draw", () -> x.draw(e, a - b), () -> m.draw(e, a - b));
            case 6 -> due(where, "setClass", () -> x.setClass(e, kind), () -> m.setClass(e, kind));
            case 7, 8 -> due(where, "guarantee", () -> x.guarantee(e, kind, a), () -> m.guarantee(e, kind, a));
            case 9, 10 -> due(where, "addPiece", () -> x.addPiece(a, c, currency, days, u), () -> m.addPiece(a, c, currency, days, u));
            default -> due(where, "setPiece", () -> x.setPiece(p, a, u), () -> m.setPiece(p, a, u));
        }
    }

    private static void ask(String where, CapitalReckoner x, Model m) {
        int e = bound(m.exposures);
        int p = bound(m.pieces);
        int party = bound(4);
        switch (next(14)) {
            case 0 -> due(where, "exposures", x::exposures, () -> m.exposures);
            case 1 -> due(where, "amount", () -> x.amount(e), () -> m.amount(e));
            case 2 -> due(where, "pieces", x::pieces, () -> m.pieces);
            case 3 -> due(where, "value", () -> x.value(p, e), () -> m.value(p, e));
            case 4, 5 -> due(where, "givenTo", () -> x.givenTo(p), () -> m.givenTo(p));
            case 6 -> due(where, "bare", () -> x.bare(e), () -> m.bare(e));
            case 7 -> due(where, "weighted", () -> x.weighted(e), () -> m.weighted(e));
            case 8 -> due(where, "whole", x::whole, m::whole);
            case 9 -> due(where, "wholeByTrying", x::wholeByTrying, m::whole);
            case 10 -> due(where, "worth", () -> x.worth(p), () -> m.worth(p));
            case 11 -> due(where, "plain and required", () -> x.plain() * 2 + x.required(), () -> m.plain() * 2 + m.required());
            case 12 -> due(where, "partyBare", () -> x.partyBare(party), () -> m.partyBare(party));
            default -> due(where, "tooLarge", x::tooLarge, m::tooLarge);
        }
    }
}
