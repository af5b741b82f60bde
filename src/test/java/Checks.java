import java.util.function.ToIntFunction;

/** What the tests share: checks that count. */
final class Checks {
    static final Class<IndexOutOfBoundsException> INDEX = IndexOutOfBoundsException.class;
    static final Class<IllegalArgumentException> ARGUMENT = IllegalArgumentException.class;
    static final Class<IllegalStateException> STATE = IllegalStateException.class;

    private int held = 0;
    private int failed = 0;

    void due(String what, Object got, Object want) {
        if (want.equals(got)) {
            held++;
        } else {
            failed++;
            System.out.println(what + ": answered " + got + ", due is " + want);
        }
    }

    /** The call is not refused, and gives this answer. */
    void taken(String what, CapitalReckoner x, ToIntFunction<CapitalReckoner> call, int want) {
        due(what, answer(() -> call.applyAsInt(x)), "" + want);
    }

    /** The call throws exactly this exception and changes nothing; the maker gives a new object each time. */
    void refused(String what, Maker maker, Class<? extends RuntimeException> want, ToIntFunction<CapitalReckoner> call) {
        CapitalReckoner x = maker.make();
        due(what, answer(() -> call.applyAsInt(x)), "throws " + want.getSimpleName());
        due(what + ", the state after it", Picture.of(x), Picture.of(maker.make()));
    }

    /** Ends the program: code 1 if a check failed. */
    void end(String name) {
        System.out.println(name + ": " + held + " checks held, " + failed + " failed");
        if (failed != 0 || held == 0) {
            System.exit(1);
        }
    }

    interface Maker {
        CapitalReckoner make();
    }

    interface Call {
        int call();
    }

    static String answer(Call call) {
        try {
            return "" + call.call();
        } catch (RuntimeException e) {
            return "throws " + e.getClass().getSimpleName();
        }
    }
}
