/**
 * All that can be found out about a reckoner, as a text. What can't be asked is found by changing the reckoner,
 * so it is of no use afterwards: a test that wants it unharmed takes the picture of a twin. Some 250 calls at most.
 */
final class Picture {
    private final CapitalReckoner x;
    private final StringBuilder text = new StringBuilder();

    private Picture(CapitalReckoner x) {
        this.x = x;
    }

    static String of(CapitalReckoner x) {
        Picture picture = new Picture(x);
        picture.askExposures();
        picture.askPieces();
        picture.askSums();
        picture.takeSettings();
        picture.takePlainWeights();
        picture.takePieces();
        picture.takeGuarantees();
        return picture.text.toString();
    }

    private void add(String name, int number) {
        text.append(' ').append(name).append(' ').append(number);
    }

    private void askExposures() {
        add("exposures", x.exposures());
        for (int e = 0; e < x.exposures(); e++) {
            add("\ndrawn", x.draw(e, 0));
            add("amount", x.amount(e));
            add("bare", x.bare(e));
            add("weighted", x.weighted(e));
            for (int p = 0; p < x.pieces(); p++) {
                add("value", x.value(p, e));
            }
        }
    }

    private void askPieces() {
        add("\npieces", x.pieces());
        for (int p = 0; p < x.pieces(); p++) {
            add("given to", x.givenTo(p));
            add("worth", x.worth(p));
        }
    }

    private void askSums() {
        add("\nwhole", x.whole());
        add("tried", x.wholeByTrying());
        add("plain", x.plain());
        add("required", x.required());
        for (int party = 0; party < 4; party++) {
            add("bare of party", x.partyBare(party));
        }
        add("too large", x.tooLarge());
    }

    private void takeSettings() {
        add("\nfloor", x.setFloor(0));
        add("capital", x.setCapital(0));
        add("too large by no capital", x.tooLarge());
    }

    /** The plain sum while one exposure goes through all classes; it is added if there is none. */
    private void takePlainWeights() {
        if (x.exposures() == 0) {
            add("\nnumber", x.addExposure(0, 0, 100, 0, 0, 1));
        }
        int before = x.setClass(0, 0);
        add("\nclass", before);
        for (int kind = 0; kind < 4; kind++) {
            x.setClass(0, kind);
            add("plain with the class", x.plain());
        }
        x.setClass(0, before);
    }

    /** Where nothing weighs, a piece goes to the first exposure that it can be used for. */
    private void takePieces() {
        for (int kind = 0; kind < 4; kind++) {
            add("\nweight", x.setWeights(kind, 0, 0));
        }
        for (int p = 0; p < x.pieces(); p++) {
            add("\nfirst use", x.givenTo(p));
        }
        for (int p = 0; p < x.pieces(); p++) {
            add("\namount of a piece", x.setPiece(p, 1, 0));
        }
    }

    private void takeGuarantees() {
        for (int kind = 0; kind < 4; kind++) {
            x.setWeights(kind, 100 * kind, 0);
        }
        for (int e = 0; e < x.exposures(); e++) {
            add("\nclass", x.setClass(e, 3));
            add("weighted as the class 3", x.weighted(e));
            add("guarantee", x.guarantee(e, 0, 0));
        }
    }
}
