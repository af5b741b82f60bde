import java.util.function.ToIntFunction;

/** What the tests share: checks that count, and a picture of all that can be asked of a reckoner. */
final class Checks {
    private int held = 0;
    private int failed = 0;

    void due(String what, Object got, Object want) {
        if (want.equals(got)) {
            held++;
        } else {
            failed++;
            System.out.println(what + ": answered " + got + ", due is " + want);
        }
    }

    /** The call throws exactly this exception and changes nothing; the maker gives a new object each time. */
    void refused(String what, ToIntFunction<Maker> call, Maker maker, Class<? extends RuntimeException> want) {
        CapitalReckoner x = maker.make();
        String before = picture(x);
        due(what, answer(() -> call.applyAsInt(() -> x)), "throws " + want.getSimpleName());
        due(what + ", the state after it", picture(x), before);
    }

    /** Ends the program: code 1 if a check failed. */
    void end(String name) {
        System.out.println(name + ": " + held + " checks held, " + failed + " failed");
        if (failed != 0 || held == 0) {
            System.exit(1);
        }
    }

    interface Maker {
        CapitalReckoner make();
    }

    interface Call {
        int call();
    }

    static String answer(Call call) {
        try {
            return "" + call.call();
        } catch (RuntimeException e) {
            return "throws " + e.getClass().getSimpleName();
        }
    }

    /** Asks all; what can only be read by changing it is put back at once. Some 180 calls at most. */
    static String picture(CapitalReckoner x) {
        StringBuilder s = new StringBuilder();
        s.append("exposures ").append(x.exposures()).append(" pieces ").append(x.pieces());
        for (int e = 0; e < x.exposures(); e++) {
            int kind = x.setClass(e, 0);
            x.setClass(e, kind);
            s.append("\nexposure ").append(e).append(": kind ").append(kind);
            s.append(" drawn ").append(x.draw(e, 0)).append(" amount ").append(x.amount(e));
            s.append(" bare ").append(x.bare(e)).append(" weighted ").append(x.weighted(e)).append(" values");
            for (int p = 0; p < x.pieces(); p++) {
                s.append(' ').append(x.value(p, e));
            }
        }
        for (int p = 0; p < x.pieces(); p++) {
            s.append("\npiece ").append(p).append(": to ").append(x.givenTo(p)).append(" worth ").append(x.worth(p));
        }
        s.append("\nwhole ").append(x.whole()).append(" tried ").append(x.wholeByTrying());
        s.append(" plain ").append(x.plain()).append(" required ").append(x.required());
        for (int party = 0; party < 4; party++) {
            s.append(" bare of party ").append(x.partyBare(party));
        }
        int capital = x.setCapital(0);
        x.setCapital(capital);
        int floor = x.setFloor(0);
        x.setFloor(floor);
        s.append(" too large ").append(x.tooLarge()).append(" capital ").append(capital).append(" floor ").append(floor);
        return s.toString();
    }
}
