import java.math.BigInteger;

/** The Description's first part: what a SPAN is, what FITS, what an AMOUNT may be, and TEXTS. */
final class SpanBounds extends Bounds {
    private static final String HERE = "Description";

    SpanBounds(Due due, Sentences document) {
        super(due, document);
    }

    @Override
    void run() {
        nanos();
        seconds();
        rest();
        zeroAndNegative();
        sign();
        fits();
        spans();
        units();
        amountIsTold();
        amountIsBounded();
        textOfNumber();
        textOfSpan();
    }

    private void nanos() {
        says(HERE, "A SPAN is a number of NANOS.");
        Spanledger x = Put.of(0, 999_999_999);
        due.answer("a nano more is a second", x.plusNanos(0, 1, 0) + " " + x.text(0), "1 1.0");
        due.answer("a nano less is none", x.minusNanos(0, 1, 0) + " " + x.text(0), "1 0.999999999");
        due.answer("made in another way, the same", x.secondsAnd(1, 1, 0, -1, 0) + " " + x.isLike(0, 1), "1 true");
    }

    private void seconds() {
        says(HERE, "SECONDS of it: that by 1,000,000,000, rounded down (of -1 NANO: -1).");
        looked(-2_000_000_001, "-3");
        looked(-2_000_000_000, "-2");
        looked(-1_999_999_999, "-2");
        looked(-1_000_000_001, "-2");
        looked(-1_000_000_000, "-1");
        looked(-999_999_999, "-1");
        looked(-1, "-1");
        looked(0, "0");
        looked(1, "0");
        looked(999_999_999, "0");
        looked(1_000_000_000, "1");
        looked(1_000_000_001, "1");
    }

    private void looked(int nanos, String seconds) {
        Spanledger x = new Spanledger();
        x.nanos(0, nanos, 0);
        due.answer("SECONDS of " + nanos, x.secondsOf(0), seconds);
    }

    private void rest() {
        says(HERE, "REST: what is left, 0 to 999,999,999 (of -1 NANO: 999,999,999).");
        int[][] all = {
            {-1_000_000_001, 999_999_999}, {-1_000_000_000, 0}, {-999_999_999, 1}, {-2, 999_999_998},
            {-1, 999_999_999}, {0, 0}, {1, 1}, {999_999_998, 999_999_998}, {999_999_999, 999_999_999},
            {1_000_000_000, 0}, {1_000_000_001, 1},
        };
        for (int[] each : all) {
            Spanledger x = new Spanledger();
            x.nanos(0, each[0], 0);
            due.answer("REST of " + each[0], x.restOf(0), each[1]);
        }
    }

    private void zeroAndNegative() {
        says(HERE, "It is ZERO, or NEGATIVE (below 0).");
        Spanledger x = new Spanledger();
        due.answer("of 0", x.isZero(0) + " " + x.isNegative(0), "true false");
        x.nanos(0, -1, 0);
        due.answer("of a nano below", x.isZero(0) + " " + x.isNegative(0), "false true");
        x.nanos(0, 1, 0);
        due.answer("of a nano above", x.isZero(0) + " " + x.isNegative(0), "false false");
    }

    private void sign() {
        says(HERE, "SIGN of it: -1 if it is NEGATIVE, 0 if it is ZERO, otherwise 1.");
        Spanledger x = new Spanledger();
        due.answer("of the least", x.seconds(0, -4, 18), -1);
        due.answer("of a second below", x.seconds(0, -1, 0), -1);
        due.answer("of a nano below", x.nanos(0, -1, 0), -1);
        due.answer("of none", x.nanos(0, 0, 0), 0);
        due.answer("of a nano above", x.nanos(0, 1, 0), 1);
        due.answer("of a second above", x.seconds(0, 1, 0), 1);
        due.answer("of the most", x.secondsAnd(0, 4, 18, 999_999_999, 0), 1);
    }

    private void fits() {
        says(HERE, "A SPAN FITS, if its SECONDS are from -4,000,000,000,000,000,000 to 4,000,000,000,000,000,000.");
        Spanledger x = new Spanledger();
        due.answer("the most seconds", x.seconds(0, 4, 18) + " " + x.text(0), "1 4000000000000000000.0");
        due.answer("a nano more", x.plusNanos(0, 1, 0) + " " + x.text(0), "1 4000000000000000000.1");
        due.answer("a nano less", x.minusNanos(0, 2, 0) + " " + x.text(0), "1 3999999999999999999.999999999");
        due.answer("almost a second more", x.secondsAnd(0, 4, 18, 999_999_998, 0), 1);
        due.answer("the very most", x.plusNanos(0, 1, 0) + " " + x.text(0), "1 4000000000000000000.999999999");
        due.answer("the least seconds", x.seconds(1, -4, 18) + " " + x.text(1), "-1 -4000000000000000000.0");
        due.answer("a nano more", x.plusNanos(1, 1, 0) + " " + x.text(1), "-1 -4000000000000000000.1");
        due.refused("a second more than the most seconds", y -> Put.span(y, 0, Put.MOST_SECONDS, 0),
                y -> y.plusSeconds(0, 1, 0));
        due.refused("a nano more than the very most", y -> Put.most(y, 0), y -> y.plusNanos(0, 1, 0));
        due.refused("a nano less than the least", y -> Put.least(y, 0), y -> y.minusNanos(0, 1, 0));
        due.refused("a second less than the least", y -> Put.least(y, 0), y -> y.minusSeconds(0, 1, 0));
        due.refused("a second less than the least and a nano", y -> Put.span(y, 0, -Put.MOST_SECONDS, 1),
                y -> y.minusSeconds(0, 1, 0));
    }

    private void spans() {
        says(HERE, "SPANS 0 to 5 (all ZERO at first).");
        Spanledger x = new Spanledger();
        for (int at = 0; at < SPANS; at++) {
            due.answer("at first", x.text(at) + " " + x.isZero(at), "0.0 true");
        }
        numbersFromZero("a SPAN", 6, INDEX, (y, number) -> y.text(number));
        numbersFromZero("a SPAN that becomes something", 6, INDEX, (y, number) -> y.seconds(number, 1, 0));
    }

    private void units() {
        says(HERE, "UNITS: a DAY is 86,400 seconds, an HOUR 3,600, a MINUTE 60, a SECOND 1,000,000,000 NANOS, a MILLI "
                + "1,000,000, a NANO 1.");
        Spanledger x = new Spanledger();
        due.answer("a DAY", x.days(0, 1, 0) + " " + x.text(0), "1 86400.0");
        due.answer("an HOUR", x.hours(0, 1, 0) + " " + x.text(0), "1 3600.0");
        due.answer("a MINUTE", x.minutes(0, 1, 0) + " " + x.text(0), "1 60.0");
        due.answer("a SECOND", x.seconds(0, 1, 0) + " " + x.text(0), "1 1.0");
        due.answer("a SECOND in NANOS", x.nanos(1, 1, 9) + " " + x.isLike(0, 1), "1 true");
        due.answer("a MILLI", x.millis(0, 1, 0) + " " + x.text(0), "1 0.1000000");
        due.answer("a NANO", x.nanos(0, 1, 0) + " " + x.text(0), "1 0.1");
    }

    private void amountIsTold() {
        says(HERE, "An AMOUNT is told by two numbers a and k: it is a times 10 to the power of k (k is 0 to 18).");
        BigInteger power = BigInteger.ONE;
        for (int k = 0; k <= 18; k++) {
            Spanledger x = new Spanledger();
            due.answer("1 with k " + k, x.nanos(0, 1, k) + " " + x.text(0), "1 " + Put.textOf(power));
            due.answer("-1 with k " + k, x.nanos(0, -1, k) + " " + x.text(0), "-1 " + Put.textOf(power.negate()));
            due.answer("0 with k " + k, x.nanos(0, 0, k) + " " + x.text(0), "0 0.0");
            power = power.multiply(BigInteger.TEN);
        }
        numbersFromZero("k", 19, ARGUMENT, (y, number) -> y.nanos(0, 9, number));
        numbersFromZero("k of nothing", 19, ARGUMENT, (y, number) -> y.days(0, 0, number));
    }

    private void amountIsBounded() {
        says(HERE, "It has to be from -9,223,372,036,854,775,807 to 9,223,372,036,854,775,807; as a SPAN it need not "
                + "FIT by itself.");
        int[][] most = {
            {10, 922_337_203}, {11, 92_233_720}, {12, 9_223_372}, {13, 922_337}, {14, 92_233}, {15, 9_223},
            {16, 922}, {17, 92}, {18, 9},
        };
        for (int[] each : most) {
            amountIsBoundedAt(each[0], each[1]);
        }
        Spanledger x = new Spanledger();
        due.answer("the greatest a, k 9", x.nanos(0, Integer.MAX_VALUE, 9) + " " + x.text(0), "1 2147483647.0");
        due.answer("the least a, k 9", x.nanos(0, Integer.MIN_VALUE, 9) + " " + x.text(0), "-1 -2147483648.0");
        due.thrown("the greatest a, k 10", ARGUMENT, y -> y.nanos(0, Integer.MAX_VALUE, 10));
        due.thrown("the least a, k 10", ARGUMENT, y -> y.nanos(0, Integer.MIN_VALUE, 10));
        due.thrown("a times 10 to the power of 18 wraps around to 0", ARGUMENT, y -> y.nanos(0, 1 << 30, 18));
        Put.least(x, 0);
        due.answer("8 by itself does not FIT", x.plusSeconds(0, 8, 18) + " " + x.text(0), "1 4000000000000000000.0");
        due.answer("nor does -8", x.plusSeconds(0, -8, 18) + " " + x.text(0), "-1 -4000000000000000000.0");
        due.refused("8 by itself", y -> { }, y -> y.seconds(5, 8, 18));
        due.refused("the greatest AMOUNT of all", y -> Put.least(y, 5), y -> y.plusSeconds(5, 922_337_203, 10));
        due.refused("the least AMOUNT of all", y -> Put.most(y, 5), y -> y.plusSeconds(5, -922_337_203, 10));
    }

    private void amountIsBoundedAt(int k, int most) {
        String told = " with k " + k;
        BigInteger greatest = BigInteger.valueOf(most).multiply(BigInteger.TEN.pow(k));
        BigInteger inside = BigInteger.valueOf(most - 1).multiply(BigInteger.TEN.pow(k));
        Spanledger x = new Spanledger();
        due.answer(most + told, x.nanos(0, most, k) + " " + x.text(0), "1 " + Put.textOf(greatest));
        due.answer("one less" + told, x.nanos(0, most - 1, k) + " " + x.text(0), "1 " + Put.textOf(inside));
        due.answer(-most + told, x.nanos(0, -most, k) + " " + x.text(0), "-1 " + Put.textOf(greatest.negate()));
        due.thrown("one more" + told, ARGUMENT, y -> y.nanos(0, most + 1, k));
        due.thrown("one less below" + told, ARGUMENT, y -> y.nanos(0, -most - 1, k));
    }

    private void textOfNumber() {
        says(HERE, "The TEXT of a number: its digits, \"-\" ahead of them if it is below 0.");
        long[] all = {
            0, 1, -1, 9, -9, 10, -10, 99, 100, 101, -100, 999_999_999_999L, 1_000_000_000_000_000_000L,
            -999_999_999_999_999_999L, 3_999_999_999_999_999_999L, Put.MOST_SECONDS, -Put.MOST_SECONDS,
        };
        for (long each : all) {
            due.answer("TEXT of " + each, Put.of(each, 0).secondsOf(0), Long.toString(each));
        }
        Spanledger x = Put.of(9_223_372_036L, 854_775_807);
        due.answer("TEXT of the greatest long", x.total(0, 5), "9223372036854775807");
        Put.span(x, 0, -9_223_372_037L, 145_224_192);
        due.answer("TEXT of the least long", x.total(0, 5), "-9223372036854775808");
    }

    private void textOfSpan() {
        says(HERE, "The TEXT of a SPAN: that of its SECONDS, \".\", and that of its REST (\"-1.999999999\", \"5.0\", "
                + "\"0.40\").");
        due.answer("a nano below", Put.of(-1, 999_999_999).text(0), "-1.999999999");
        due.answer("five seconds", Put.of(5, 0).text(0), "5.0");
        due.answer("forty nanos", Put.of(0, 40).text(0), "0.40");
        due.answer("ZERO", new Spanledger().text(0), "0.0");
        due.answer("a second below and a nano more", Put.of(-1, 1).text(0), "-1.1");
        due.answer("the most", Put.of(Put.MOST_SECONDS, 999_999_999).text(0), "4000000000000000000.999999999");
        due.answer("the least", Put.of(-Put.MOST_SECONDS, 0).text(0), "-4000000000000000000.0");
    }
}
