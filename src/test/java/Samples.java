/** Reckoners that several tests begin from. */
final class Samples {
    static final int TOP = 10000000;

    private Samples() {
    }

    static CapitalReckoner fresh() {
        return new CapitalReckoner();
    }

    /** One exposure of the amount 1200 and one piece of the value 100 for it, so 1100 is bare and as much is weighted. */
    static CapitalReckoner loan() {
        CapitalReckoner x = new CapitalReckoner();
        x.addExposure(3, 0, 1000, 500, 0, 100);
        x.addPiece(100, 0, 0, 100, 1);
        return x;
    }

    /** Three exposures of different classes, and two pieces. */
    static CapitalReckoner some() {
        CapitalReckoner x = new CapitalReckoner();
        x.addExposure(1, 0, 1000, 500, 0, 100);
        x.addExposure(2, 1, 2000, 0, 1, 200);
        x.addExposure(3, 3, 300, TOP, 2, 300);
        x.guarantee(2, 1, 77);
        x.addPiece(400, 10, 0, 50, 7);
        x.addPiece(600, 20, 1, 400, 6);
        x.setCapital(5000);
        x.setFloor(60);
        return x;
    }

    /** As many exposures and pieces as there can be. */
    static CapitalReckoner full() {
        CapitalReckoner x = new CapitalReckoner();
        for (int e = 0; e < 8; e++) {
            x.addExposure(e % 4, e / 2, 100 + 100 * e, 10 * e, e % 3, 10 + e);
        }
        for (int p = 0; p < 5; p++) {
            x.addPiece(90 + p, p, p % 3, 8 + 2 * p, 255);
        }
        return x;
    }
}
