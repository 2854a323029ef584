import java.math.BigInteger;

/** Promises 3 to 8 and 13 to 24: spans made of an AMOUNT, longer and shorter by one. */
public final class AmountsTest {
    private static final Class<IndexOutOfBoundsException> INDEX = IndexOutOfBoundsException.class;
    private static final Class<IllegalArgumentException> ARGUMENT = IllegalArgumentException.class;

    /** What an object starts from: ZERO, the greatest SPAN, the least, and some between. */
    private static final BigInteger[] STARTS = {
        BigInteger.ZERO,
        Put.MOST,
        BigInteger.valueOf(Put.MOST_SECONDS).multiply(Put.SECOND),
        Put.LEAST,
        BigInteger.ONE.negate(),
        BigInteger.valueOf(999_999_999L),
        BigInteger.valueOf(-86_400_123_456_789L),
    };

    private static final int[] NUMBERS = {
        0, 1, -1, 2, 8, -8, 9, -9, 10, -10, 46, 47, -46, -47, 59, 66, 67, 92, 93, 999, -1001, 1440,
        46296296, 46296297, -46296296, -46296297, 92592592, 92592593, -92592592, -92592593,
        1111111111, 1111111112, -1111111111, 922337203, 922337204, -922337203, -922337204,
        400000000, 400000001, -400000001, 800000000, 800000001, -800000000, -800000001,
        104166666, 104166667, 2147483647, -2147483647, -2147483648,
    };

    private interface Call {
        int on(Spanledger x, int at, int a, int k);
    }

    private record Unit(String name, long nanos, Call make, Call plus, Call minus) {
    }

    private static final Unit[] UNITS = {
        new Unit("Days", 86_400_000_000_000L, Spanledger::days, Spanledger::plusDays, Spanledger::minusDays),
        new Unit("Hours", 3_600_000_000_000L, Spanledger::hours, Spanledger::plusHours, Spanledger::minusHours),
        new Unit("Minutes", 60_000_000_000L, Spanledger::minutes, Spanledger::plusMinutes, Spanledger::minusMinutes),
        new Unit("Seconds", 1_000_000_000L, Spanledger::seconds, Spanledger::plusSeconds, Spanledger::minusSeconds),
        new Unit("Millis", 1_000_000L, Spanledger::millis, Spanledger::plusMillis, Spanledger::minusMillis),
        new Unit("Nanos", 1L, Spanledger::nanos, Spanledger::plusNanos, Spanledger::minusNanos),
    };

    private static final Due due = new Due("AmountsTest");

    public static void main(String[] args) {
        plainMaking();
        plainLonger();
        plainShorter();
        theBoundsOfWhatFits();
        for (Unit unit : UNITS) {
            againstBigIntegers(unit);
            wrongArguments(unit.name + " made", unit.make);
            wrongArguments("plus" + unit.name, unit.plus);
            wrongArguments("minus" + unit.name, unit.minus);
            everySpan(unit);
        }
        due.close();
    }

    private static void plainMaking() {
        Spanledger x = new Spanledger();
        due.answer("days", x.days(0, -2, 1) + " " + x.text(0), "-1 -1728000.0");
        due.answer("hours", x.hours(0, 25, 0) + " " + x.text(0), "1 90000.0");
        due.answer("minutes", x.minutes(0, -3, 2) + " " + x.text(0), "-1 -18000.0");
        due.answer("seconds", x.seconds(0, 61, 0) + " " + x.text(0), "1 61.0");
        due.answer("millis", x.millis(0, -1, 0) + " " + x.text(0), "-1 -1.999000000");
        due.answer("millis", x.millis(0, 1234, 1) + " " + x.text(0), "1 12.340000000");
        due.answer("nanos", x.nanos(0, -1, 0) + " " + x.text(0), "-1 -1.999999999");
        due.answer("nanos", x.nanos(0, 4, 1) + " " + x.text(0), "1 0.40");
        due.answer("nanos of 0 times 10 to the power of 18", x.nanos(0, 0, 18) + " " + x.text(0), "0 0.0");
    }

    private static void plainLonger() {
        Spanledger x = new Spanledger();
        due.answer("plusDays", x.plusDays(1, 1, 0) + " " + x.text(1), "1 86400.0");
        due.answer("plusHours", x.plusHours(1, 1, 0) + " " + x.text(1), "1 90000.0");
        due.answer("plusMinutes", x.plusMinutes(1, 1, 0) + " " + x.text(1), "1 90060.0");
        due.answer("plusSeconds", x.plusSeconds(1, 1, 0) + " " + x.text(1), "1 90061.0");
        due.answer("plusMillis", x.plusMillis(1, 1, 0) + " " + x.text(1), "1 90061.1000000");
        due.answer("plusNanos", x.plusNanos(1, 1, 0) + " " + x.text(1), "1 90061.1000001");
        due.answer("plusDays below", x.plusDays(1, -2, 0) + " " + x.text(1), "-1 -82739.1000001");
        due.answer("longer by nothing", x.plusDays(1, 0, 18) + " " + x.text(1), "-1 -82739.1000001");
    }

    private static void plainShorter() {
        Spanledger x = new Spanledger();
        due.answer("minusNanos", x.minusNanos(1, 1, 0) + " " + x.text(1), "-1 -1.999999999");
        due.answer("minusMillis", x.minusMillis(1, 1, 0) + " " + x.text(1), "-1 -1.998999999");
        due.answer("minusSeconds", x.minusSeconds(1, 1, 0) + " " + x.text(1), "-1 -2.998999999");
        due.answer("minusMinutes", x.minusMinutes(1, 1, 0) + " " + x.text(1), "-1 -62.998999999");
        due.answer("minusHours", x.minusHours(1, 1, 0) + " " + x.text(1), "-1 -3662.998999999");
        due.answer("minusDays", x.minusDays(1, 1, 0) + " " + x.text(1), "-1 -90062.998999999");
        due.answer("minusDays below", x.minusDays(1, -2, 0) + " " + x.text(1), "1 82738.998999999");
    }

    private static void theBoundsOfWhatFits() {
        Spanledger x = new Spanledger();
        due.answer("46296296296296 days fit", makeOf(x, 46296296, 6, 296296, 0), "3999999999999974400.0");
        due.refused("a day more", y -> makeOf(y, 46296296, 6, 296296, 0), y -> y.plusDays(0, 1, 0));
        due.answer("from the least to the most", x.seconds(2, -4, 18) + " " + x.plusSeconds(2, 8, 18), "-1 1");
        due.answer("text", x.text(2), "4000000000000000000.0");
        due.answer("and back", x.minusSeconds(2, 8, 18) + " " + x.text(2), "-1 -4000000000000000000.0");
        due.refused("longer by 9 times 10 to the power of 18", y -> y.seconds(0, 4, 18), y -> y.plusSeconds(0, 9, 18));
        due.refused("shorter by it", y -> y.seconds(0, -4, 18), y -> y.minusSeconds(0, 9, 18));
        due.refused("a nano less than the least", y -> y.seconds(0, -4, 18), y -> y.minusNanos(0, 1, 0));
        due.refused("a nano more than the most",
                y -> y.secondsAnd(0, 4, 18, 999999999, 0), y -> y.plusNanos(0, 1, 0));
    }

    private static String makeOf(Spanledger x, int a, int k, int b, int j) {
        x.days(0, a, k);
        x.plusDays(0, b, j);
        return x.text(0);
    }

    private static void againstBigIntegers(Unit unit) {
        for (BigInteger start : STARTS) {
            for (int a : NUMBERS) {
                for (int k = 0; k <= 18; k++) {
                    BigInteger amount = BigInteger.valueOf(a).multiply(BigInteger.TEN.pow(k));
                    boolean isAmount = amount.abs().bitLength() < 64;
                    BigInteger by = amount.multiply(BigInteger.valueOf(unit.nanos));
                    String told = unit.name + "(" + a + ", " + k + ") from " + start;
                    look("make " + told, unit.make, start, a, k, isAmount ? by : null);
                    look("plus " + told, unit.plus, start, a, k, isAmount ? start.add(by) : null);
                    look("minus " + told, unit.minus, start, a, k, isAmount ? start.subtract(by) : null);
                }
            }
        }
    }

    /** One call on a SPAN that is put to a start; what comes out is null if a and k are no AMOUNT. */
    private static void look(String told, Call call, BigInteger start, int a, int k, BigInteger result) {
        Spanledger x = new Spanledger();
        Put.span(x, 3, start);
        Object want;
        BigInteger then = start;
        if (result == null) {
            want = ARGUMENT;
        } else if (!Put.fits(result)) {
            want = Due.REFUSED;
        } else {
            want = result.signum();
            then = result;
        }
        Object got;
        try {
            got = call.on(x, 3, a, k);
        } catch (RuntimeException e) {
            got = e.getClass();
        }
        due.answer(told, got, want);
        due.answer(told + ": text", x.text(3), Put.textOf(then));
        due.answer(told + ": refusals", x.house(1), want.equals(Due.REFUSED) ? 1 : 0);
        due.answer(told + ": the others", x.twins() >= 10, true);
    }

    private static void wrongArguments(String told, Call call) {
        due.thrown(told + " at 6", INDEX, y -> call.on(y, 6, 1, 0));
        due.thrown(told + " at -1", INDEX, y -> call.on(y, -1, 1, 0));
        due.thrown(told + " at -1, k wrong", INDEX, y -> call.on(y, -1, 1, 19));
        due.thrown(told + " at 6, no AMOUNT", INDEX, y -> call.on(y, 6, 10, 18));
        due.thrown(told + " k -1", ARGUMENT, y -> call.on(y, 0, 1, -1));
        due.thrown(told + " k 19", ARGUMENT, y -> call.on(y, 0, 0, 19));
        due.thrown(told + " k least", ARGUMENT, y -> call.on(y, 0, 0, Integer.MIN_VALUE));
        due.thrown(told + " k greatest", ARGUMENT, y -> call.on(y, 0, 0, Integer.MAX_VALUE));
        due.thrown(told + " no AMOUNT above", ARGUMENT, y -> call.on(y, 0, 10, 18));
        due.thrown(told + " no AMOUNT below", ARGUMENT, y -> call.on(y, 0, -10, 18));
        due.thrown(told + " just no AMOUNT above", ARGUMENT, y -> call.on(y, 0, 922337204, 10));
        due.thrown(told + " just no AMOUNT below", ARGUMENT, y -> call.on(y, 0, -922337204, 10));
    }

    private static void everySpan(Unit unit) {
        for (int at = 0; at < 6; at++) {
            Spanledger x = new Spanledger();
            due.answer(unit.name + " made at " + at, unit.make.on(x, at, 3, 0), 1);
            due.answer("plus" + unit.name + " at " + at, unit.plus.on(x, at, 2, 0), 1);
            due.answer("minus" + unit.name + " at " + at, unit.minus.on(x, at, 9, 0), -1);
            due.answer("text", x.text(at), Put.textOf(BigInteger.valueOf(-4 * unit.nanos)));
            due.answer("only that one", x.house(3), 5);
        }
    }
}
