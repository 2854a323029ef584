import java.util.function.Consumer;
import java.util.function.Function;

/** What the tests share: answers that are due, exceptions that are due, and REFUSED that is due. */
final class Due {
    static final int REFUSED = -9;

    private final String name;
    private int looked;
    private int wrong;

    Due(String name) {
        this.name = name;
    }

    /** An answer is the one that is due. */
    void answer(String call, Object got, Object want) {
        looked++;
        if (!want.equals(got)) {
            wrong++;
            System.out.println(name + ": " + call + " answered " + got + ", due is " + want);
        }
    }

    /** A call on a furnished object throws just this kind, and leaves everything as it was. */
    void thrown(String call, Class<? extends RuntimeException> kind, Function<Spanledger, Object> act) {
        thrown(call, kind, x -> { }, act);
    }

    void thrown(String call, Class<? extends RuntimeException> kind, Consumer<Spanledger> before,
            Function<Spanledger, Object> act) {
        Spanledger x = furnished(before);
        Spanledger twin = furnished(before);
        answer(call, outcomeOf(act, x), kind);
        answer(call + " keeps the digest", x.digest(), twin.digest());
        answer(call + " keeps the state", stateOf(x) + nanosOfMoments(x), stateOf(twin) + nanosOfMoments(twin));
    }

    /** A call tells REFUSED, and changes nothing but how often that was told. */
    void refused(String call, Consumer<Spanledger> before, Function<Spanledger, Object> act) {
        Spanledger x = furnished(before);
        Spanledger twin = furnished(before);
        answer(call, outcomeOf(act, x), REFUSED);
        answer(call + " is counted", x.house(1), twin.house(1) + 1);
        answer(call + " keeps the state", stateBesideRefusals(x) + nanosOfMoments(x),
                stateBesideRefusals(twin) + nanosOfMoments(twin));
    }

    /** What a call answers, or the class of what it throws. */
    static Object outcomeOf(Function<Spanledger, Object> act, Spanledger x) {
        try {
            return act.apply(x);
        } catch (RuntimeException e) {
            return e.getClass();
        }
    }

    int looked() {
        return looked;
    }

    /** Ends the test: exit code 1 if an answer was not the one that is due. */
    void close() {
        System.out.println(name + ": " + looked + " answers looked at, " + wrong + " wrong");
        if (wrong > 0 || looked == 0) {
            System.exit(1);
        }
    }

    /** An object in which every kind of state differs from a new object's. */
    static Spanledger furnished() {
        Spanledger x = new Spanledger();
        x.secondsAnd(0, 12, 0, 345, 6);
        x.secondsAnd(1, -7, 3, -89, 5);
        x.nanos(2, -1, 0);
        x.days(3, 5, 9);
        x.copy(4, 0);
        x.moment(0, 1, 2, 3, 4);
        x.moment(1, 23, 59, 59, 999999999);
        x.moment(2, 12, 0, 30, 500);
        x.post(0);
        x.post(1);
        x.post(2);
        x.days(5, 9, 18);
        x.knock();
        x.knock();
        return x;
    }

    private static Spanledger furnished(Consumer<Spanledger> before) {
        Spanledger x = furnished();
        before.accept(x);
        return x;
    }

    static String stateOf(Spanledger x) {
        return stateBesideRefusals(x) + " refused " + x.house(1);
    }

    private static String stateBesideRefusals(Spanledger x) {
        StringBuilder state = new StringBuilder("spans");
        for (int i = 0; i < 6; i++) {
            state.append(' ').append(x.text(i));
        }
        state.append(" moments");
        for (int i = 0; i < 4; i++) {
            state.append(' ').append(x.secondOfDay(i));
        }
        state.append(" entries");
        for (int i = 0; i < x.house(0); i++) {
            state.append(' ').append(x.entry(i));
        }
        return state.append(" knocks ").append(x.house(2)).toString();
    }

    /** The nanos of moments show only in a span, so this comes last of all that is asked of an object. */
    private static String nanosOfMoments(Spanledger x) {
        StringBuilder nanos = new StringBuilder(" moments");
        for (int i = 1; i < 4; i++) {
            x.between(5, 0, i);
            nanos.append(' ').append(x.text(5));
        }
        x.moment(3, 0, 0, 0, 0);
        x.between(5, 3, 0);
        return nanos.append(' ').append(x.text(5)).toString();
    }
}
