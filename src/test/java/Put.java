import java.math.BigInteger;

/** Spans put to what the tests need, and what is due of them, over whole numbers without bound. */
final class Put {
    static final long MOST_SECONDS = 4_000_000_000_000_000_000L;
    static final int MOST_REST = 999_999_999;

    static final BigInteger SECOND = BigInteger.valueOf(1_000_000_000L);
    /** The greatest SPAN that FITS, and the least one, in NANOS. */
    static final BigInteger MOST = BigInteger.valueOf(MOST_SECONDS).multiply(SECOND)
            .add(BigInteger.valueOf(MOST_REST));
    static final BigInteger LEAST = BigInteger.valueOf(-MOST_SECONDS).multiply(SECOND);

    private Put() {
    }

    static void span(Spanledger x, int at, long seconds, int rest) {
        x.seconds(at, (int) (seconds / 10_000_000_000L), 10);
        x.plusSeconds(at, (int) (seconds % 10_000_000_000L / 100_000L), 5);
        x.plusSeconds(at, (int) (seconds % 100_000L), 0);
        x.plusNanos(at, rest, 0);
    }

    static void span(Spanledger x, int at, BigInteger nanos) {
        span(x, at, secondsOf(nanos).longValueExact(), nanos.mod(SECOND).intValueExact());
    }

    static void most(Spanledger x, int at) {
        span(x, at, MOST_SECONDS, MOST_REST);
    }

    static void least(Spanledger x, int at) {
        span(x, at, -MOST_SECONDS, 0);
    }

    /** A new object whose SPAN 0 has so many SECONDS and such a REST. */
    static Spanledger of(long seconds, int rest) {
        Spanledger x = new Spanledger();
        span(x, 0, seconds, rest);
        return x;
    }

    static BigInteger secondsOf(BigInteger nanos) {
        return nanos.subtract(nanos.mod(SECOND)).divide(SECOND);
    }

    static String textOf(BigInteger nanos) {
        return secondsOf(nanos) + "." + nanos.mod(SECOND);
    }

    static boolean fits(BigInteger nanos) {
        return nanos.compareTo(LEAST) >= 0 && nanos.compareTo(MOST) <= 0;
    }
}
