import java.math.BigInteger;

/** Promises 25 to 30: spans put together, taken from each other and turned round; moments. */
final class TurnBounds extends Bounds {
    private static final String PLUS = "Promise 25: plus";
    private static final String MINUS = "Promise 26: minus";
    private static final String NEGATE = "Promise 27: negate";
    private static final String ABS = "Promise 28: abs";
    private static final String MOMENT = "Promise 29: moment";
    private static final String SECOND_OF_DAY = "Promise 30: secondOfDay";
    private static final String SIGN_OR_REFUSED = "Returns its SIGN then; REFUSED if it would not FIT then.";

    /** Numbers of NANOS at the bounds, at ZERO, and beside both. */
    private static final BigInteger[] EDGES = {
        Put.LEAST, Put.LEAST.add(BigInteger.ONE), Put.LEAST.add(Put.SECOND), Put.SECOND.negate(),
        BigInteger.ONE.negate(), BigInteger.ZERO, BigInteger.ONE, Put.SECOND.subtract(BigInteger.ONE), Put.SECOND,
        BigInteger.valueOf(2_000_000_000_000_000_000L).multiply(Put.SECOND), Put.MOST.subtract(Put.SECOND),
        Put.MOST.subtract(BigInteger.ONE), Put.MOST,
    };

    private interface Call {
        int on(Spanledger x, int at, int other);
    }

    TurnBounds(Due due, Sentences document) {
        super(due, document);
    }

    @Override
    void run() {
        plus();
        minus();
        negate();
        abs();
        moment();
        momentThrows();
        secondOfDay();
    }

    /** SPAN 1 by SPAN 2: what is answered, and what both are then. */
    private void told(String name, Call call, BigInteger one, BigInteger other, BigInteger result) {
        Spanledger x = new Spanledger();
        Put.span(x, 1, one);
        Put.span(x, 2, other);
        boolean fits = Put.fits(result);
        String told = name + " of " + Put.textOf(one) + " and " + Put.textOf(other);
        due.answer(told, Due.outcomeOf(y -> call.on(y, 1, 2), x), fits ? result.signum() : Due.REFUSED);
        due.answer(told + ", and then", Due.stateOf(x), "spans 0.0 " + Put.textOf(fits ? result : one) + " "
                + Put.textOf(other) + " 0.0 0.0 0.0 moments 0 0 0 0 entries knocks 0 refused " + (fits ? 0 : 1));
    }

    private void plus() {
        says(PLUS, "A SPAN becomes longer by another one.");
        for (BigInteger one : EDGES) {
            for (BigInteger other : EDGES) {
                told("plus", Spanledger::plus, one, other, one.add(other));
            }
        }
        Spanledger x = Put.of(2_000_000_000_000_000_000L, 499_999_999);
        due.answer("by the same", x.plus(0, 0) + " " + x.text(0), "1 4000000000000000000.999999998");
        Put.span(x, 0, -1, 500_000_000);
        due.answer("by the same below", x.plus(0, 0) + " " + x.text(0), "-1 -1.0");
        says(PLUS, SIGN_OR_REFUSED);
        Spanledger y = Put.of(Put.MOST_SECONDS, 999_999_998);
        y.nanos(1, 1, 0);
        due.answer("a nano to the most", y.plus(0, 1) + " " + y.text(0), "1 4000000000000000000.999999999");
        Put.span(y, 2, -Put.MOST_SECONDS, 1);
        y.nanos(3, -1, 0);
        due.answer("a nano to the least", y.plus(2, 3) + " " + y.text(2), "-1 -4000000000000000000.0");
        due.answer("to ZERO", y.plus(1, 3), 0);
        due.refused("a nano more than the most", z -> { Put.most(z, 0); z.nanos(1, 1, 0); }, z -> z.plus(0, 1));
        due.refused("a nano less than the least", z -> { Put.least(z, 0); z.nanos(1, -1, 0); }, z -> z.plus(0, 1));
        due.refused("a second more", z -> { Put.most(z, 0); z.seconds(1, 1, 0); }, z -> z.plus(0, 1));
        due.refused("the most and itself", z -> Put.most(z, 0), z -> z.plus(0, 0));
        due.refused("the least and itself", z -> Put.least(z, 0), z -> z.plus(0, 0));
        due.refused("half the most and a nano, and itself",
                z -> Put.span(z, 0, 2_000_000_000_000_000_000L, 500_000_000), z -> z.plus(0, 0));
        says(PLUS, NO_SPAN_OF_BOTH);
        numbersFromZero("plus at", SPANS, INDEX, (z, at) -> z.plus(at, 1));
        numbersFromZero("plus other", SPANS, INDEX, (z, other) -> z.plus(1, other));
        numbersFromZero("plus both", SPANS, INDEX, (z, both) -> z.plus(both, both));
    }

    private void minus() {
        says(MINUS, "A SPAN becomes shorter by another one.");
        for (BigInteger one : EDGES) {
            for (BigInteger other : EDGES) {
                told("minus", Spanledger::minus, one, other, one.subtract(other));
            }
        }
        for (BigInteger one : EDGES) {
            Spanledger x = new Spanledger();
            Put.span(x, 0, one);
            due.answer("by the same, " + Put.textOf(one), x.minus(0, 0) + " " + x.text(0), "0 0.0");
        }
        says(MINUS, SIGN_OR_REFUSED);
        Spanledger x = Put.of(Put.MOST_SECONDS, 999_999_998);
        x.nanos(1, -1, 0);
        due.answer("a nano to the most", x.minus(0, 1) + " " + x.text(0), "1 4000000000000000000.999999999");
        Put.span(x, 2, -Put.MOST_SECONDS, 1);
        x.nanos(3, 1, 0);
        due.answer("a nano to the least", x.minus(2, 3) + " " + x.text(2), "-1 -4000000000000000000.0");
        due.answer("ZERO by the least", x.minus(4, 2) + " " + x.text(4), "1 4000000000000000000.0");
        due.refused("a nano more than the most", z -> { Put.most(z, 0); z.nanos(1, -1, 0); }, z -> z.minus(0, 1));
        due.refused("a nano less than the least", z -> { Put.least(z, 0); z.nanos(1, 1, 0); }, z -> z.minus(0, 1));
        due.refused("ZERO by the very most", z -> Put.most(z, 0), z -> z.minus(5, 0));
        due.refused("ZERO by a nano more than turned round FITS", z -> Put.span(z, 0, Put.MOST_SECONDS, 1),
                z -> z.minus(5, 0));
        due.refused("the most by the least", z -> { Put.most(z, 0); Put.least(z, 1); }, z -> z.minus(0, 1));
        due.refused("the least by the most", z -> { Put.most(z, 0); Put.least(z, 1); }, z -> z.minus(1, 0));
        says(MINUS, NO_SPAN_OF_BOTH);
        numbersFromZero("minus at", SPANS, INDEX, (z, at) -> z.minus(at, 1));
        numbersFromZero("minus other", SPANS, INDEX, (z, other) -> z.minus(1, other));
        numbersFromZero("minus both", SPANS, INDEX, (z, both) -> z.minus(both, both));
    }

    private void negate() {
        says(NEGATE, "A SPAN is turned round: what was NEGATIVE is not, and the other way.");
        for (BigInteger one : EDGES) {
            told("negate", (x, at, other) -> x.negate(at), one, BigInteger.ZERO, one.negate());
        }
        says(NEGATE, SIGN_OR_REFUSED);
        due.answer("of ZERO", new Spanledger().negate(0), 0);
        due.answer("of a nano", Put.of(0, 1).negate(0), -1);
        due.answer("of a nano below", Put.of(-1, 999_999_999).negate(0), 1);
        due.answer("of the most seconds", Put.of(Put.MOST_SECONDS, 0).negate(0), -1);
        due.answer("of a nano less", Put.of(Put.MOST_SECONDS - 1, 999_999_999).negate(0), -1);
        due.answer("of the least", Put.of(-Put.MOST_SECONDS, 0).negate(0), 1);
        due.answer("of the least and a nano", Put.of(-Put.MOST_SECONDS, 1).negate(0), 1);
        due.refused("of the most seconds and a nano", z -> Put.span(z, 0, Put.MOST_SECONDS, 1), z -> z.negate(0));
        due.refused("of the very most", z -> Put.most(z, 0), z -> z.negate(0));
        says(NEGATE, NO_SPAN);
        numbersFromZero("negate", SPANS, INDEX, Spanledger::negate);
    }

    private void abs() {
        says(ABS, "A SPAN becomes one without its sign: turned round, if it is NEGATIVE.");
        for (BigInteger one : EDGES) {
            told("abs", (x, at, other) -> x.abs(at), one, BigInteger.ZERO, one.abs());
        }
        says(ABS, SIGN_OR_REFUSED);
        due.answer("of ZERO", new Spanledger().abs(0), 0);
        due.answer("of a nano", Put.of(0, 1).abs(0), 1);
        due.answer("of a nano below", Put.of(-1, 999_999_999).abs(0), 1);
        due.answer("of the very most, which does not FIT turned round",
                Put.of(Put.MOST_SECONDS, 999_999_999).abs(0), 1);
        due.answer("of the least, which turned round FITS", Put.of(-Put.MOST_SECONDS, 0).abs(0), 1);
        due.answer("of the least and a nano", Put.of(-Put.MOST_SECONDS, 1).abs(0), 1);
        neverRefused();
        says(ABS, NO_SPAN);
        numbersFromZero("abs", SPANS, INDEX, Spanledger::abs);
    }

    /** Of the least SPAN that FITS the REST is 0, so that turned round it FITS too. */
    private void neverRefused() {
        Spanledger x = new Spanledger();
        for (int rest : new int[] {0, 1, 999_999_998, 999_999_999}) {
            for (long seconds : new long[] {-Put.MOST_SECONDS, 1 - Put.MOST_SECONDS, -1, 0, Put.MOST_SECONDS}) {
                Put.span(x, 0, seconds, rest);
                due.answer("abs of " + x.text(0), x.abs(0), seconds == 0 && rest == 0 ? 0 : 1);
            }
        }
        due.answer("abs never told REFUSED", x.house(1), 0);
    }

    private void moment() {
        says(MOMENT, "A MOMENT becomes another one.");
        Spanledger x = Due.furnished();
        for (int which = 0; which < MOMENTS; which++) {
            x.moment(which, 23, 59, 59, 999_999_999 - which);
        }
        due.answer("0 and 1", x.between(0, 1, 0) + " " + x.text(0), "1 0.1");
        due.answer("0 and 3", x.between(0, 3, 0) + " " + x.text(0), "1 0.3");
        x.moment(0, 0, 0, 0, 0);
        due.answer("only one becomes another", x.between(0, 3, 2) + " " + x.text(0), "1 0.1");
        due.answer("which is at the beginning", x.between(0, 0, 1) + " " + x.text(0), "1 86399.999999998");
        says(MOMENT, "Returns how many whole seconds of the day are ahead of it.");
        due.answer("the beginning", x.moment(0, 0, 0, 0, 0), 0);
        due.answer("almost a second", x.moment(0, 0, 0, 0, 999_999_999), 0);
        due.answer("a second", x.moment(0, 0, 0, 1, 0), 1);
        due.answer("almost a minute", x.moment(0, 0, 0, 59, 999_999_999), 59);
        due.answer("a minute", x.moment(0, 0, 1, 0, 0), 60);
        due.answer("almost an hour", x.moment(0, 0, 59, 59, 999_999_999), 3_599);
        due.answer("an hour", x.moment(0, 1, 0, 0, 0), 3_600);
        due.answer("the last second", x.moment(0, 23, 59, 59, 0), 86_399);
        due.answer("the last nano", x.moment(0, 23, 59, 59, 999_999_999), 86_399);
    }

    private void momentThrows() {
        says(MOMENT, "Throws `IndexOutOfBoundsException` if there is no such MOMENT");
        numbersFromZero("moment", MOMENTS, INDEX, (y, which) -> y.moment(which, 5, 6, 7, 8));
        numbersFromZero("moment, latest", MOMENTS, INDEX, (y, which) -> y.moment(which, 23, 59, 59, 999_999_999));
        for (int which : new int[] {-1, MOMENTS}) {
            due.thrown("no MOMENT, no hour", INDEX, y -> y.moment(which, -1, 0, 0, 0));
            due.thrown("no MOMENT, no hour", INDEX, y -> y.moment(which, 24, 0, 0, 0));
            due.thrown("no MOMENT, no minute", INDEX, y -> y.moment(which, 0, -1, 0, 0));
            due.thrown("no MOMENT, no minute", INDEX, y -> y.moment(which, 0, 60, 0, 0));
            due.thrown("no MOMENT, no second", INDEX, y -> y.moment(which, 0, 0, -1, 0));
            due.thrown("no MOMENT, no second", INDEX, y -> y.moment(which, 0, 0, 60, 0));
            due.thrown("no MOMENT, no nano", INDEX, y -> y.moment(which, 0, 0, 0, -1));
            due.thrown("no MOMENT, no nano", INDEX, y -> y.moment(which, 0, 0, 0, 1_000_000_000));
        }
        says(MOMENT, "Throws `IllegalArgumentException` if hour is not 0 to 23, minute or second not 0 to 59, or nano "
                + "not 0 to 999999999");
        for (int which = 0; which < MOMENTS; which++) {
            int each = which;
            numbersFromZero("hour", 24, ARGUMENT, (y, hour) -> y.moment(each, hour, 59, 59, 999_999_999));
            numbersFromZero("minute", 60, ARGUMENT, (y, minute) -> y.moment(each, 23, minute, 0, 0));
            numbersFromZero("second", 60, ARGUMENT, (y, second) -> y.moment(each, 0, 59, second, 1));
            numbersFromZero("nano", 1_000_000_000, ARGUMENT, (y, nano) -> y.moment(each, 23, 0, 59, nano));
        }
        due.thrown("a minute that would make the hour less", ARGUMENT, y -> y.moment(0, 24, -1, 0, 0));
        due.thrown("a second that would make the minute less", ARGUMENT, y -> y.moment(0, 0, 60, -1, 0));
        due.thrown("a nano that would make the second less", ARGUMENT, y -> y.moment(0, 0, 0, 60, -1));
    }

    private void secondOfDay() {
        says(SECOND_OF_DAY, "Returns how many whole seconds of the day are ahead of it.");
        int[][] all = {
            {0, 0, 0, 0, 0}, {0, 0, 0, 999_999_999, 0}, {0, 0, 1, 0, 1}, {0, 0, 59, 999_999_999, 59}, {0, 1, 0, 0, 60},
            {0, 59, 59, 999_999_999, 3_599}, {1, 0, 0, 0, 3_600}, {23, 59, 59, 0, 86_399},
            {23, 59, 59, 999_999_999, 86_399},
        };
        Spanledger x = new Spanledger();
        for (int i = 0; i < all.length; i++) {
            int which = i % MOMENTS;
            x.moment(which, all[i][0], all[i][1], all[i][2], all[i][3]);
            due.answer("secondOfDay in row " + i, x.secondOfDay(which), all[i][4]);
        }
        due.answer("of all of them", x.secondOfDay(0) + " " + x.secondOfDay(1) + " " + x.secondOfDay(2) + " "
                + x.secondOfDay(3), "86399 3599 3600 86399");
        says(SECOND_OF_DAY, "Throws `IndexOutOfBoundsException` if there is no such MOMENT");
        numbersFromZero("secondOfDay", MOMENTS, INDEX, Spanledger::secondOfDay);
    }
}
