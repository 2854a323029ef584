/** Promises 31 to 41: what is asked of spans. */
final class AskBounds extends Bounds {
    private static final String SECONDS_OF = "Promise 31: secondsOf";
    private static final String REST_OF = "Promise 32: restOf";
    private static final String TEXT = "Promise 33: text";
    private static final String IS_ZERO = "Promise 34: isZero";
    private static final String IS_NEGATIVE = "Promise 35: isNegative";
    private static final String TOTAL = "Promise 36: total";
    private static final String PART = "Promise 37: part";
    private static final String COMPARE = "Promise 38: compare";
    private static final String IS_LIKE = "Promise 39: isLike";
    private static final String GREATER = "Promise 40: greater";
    private static final String TWINS = "Promise 41: twins";

    private static final String NO_KIND = "Throws `IllegalArgumentException` if what is not 0 to 5";

    /** SECONDS and RESTS, rising by as little as can be. */
    private static final long[][] RISING = {
        {-Put.MOST_SECONDS, 0}, {-Put.MOST_SECONDS, 1}, {-Put.MOST_SECONDS, 999_999_999}, {-1 - (1L << 32), 5},
        {-2, 999_999_999}, {-1, 0}, {-1, 1}, {-1, 999_999_999}, {0, 0}, {0, 1}, {0, 999_999_999}, {1, 0},
        {1L << 32, 5}, {Put.MOST_SECONDS, 0}, {Put.MOST_SECONDS, 999_999_998}, {Put.MOST_SECONDS, 999_999_999},
    };

    AskBounds(Due due, Sentences document) {
        super(due, document);
    }

    @Override
    void run() {
        secondsOf();
        restOf();
        text();
        isZero();
        isNegative();
        total();
        part();
        compare();
        isLike();
        greater();
        twins();
    }

    private static Spanledger rising(int i) {
        return Put.of(RISING[i][0], (int) RISING[i][1]);
    }

    private static Spanledger both(int i, int j) {
        Spanledger x = rising(i);
        Put.span(x, 1, RISING[j][0], (int) RISING[j][1]);
        return x;
    }

    private void secondsOf() {
        says(SECONDS_OF, "Returns the TEXT of its SECONDS.");
        for (int i = 0; i < RISING.length; i++) {
            due.answer("secondsOf in row " + i, rising(i).secondsOf(0), Long.toString(RISING[i][0]));
        }
        says(SECONDS_OF, NO_SPAN);
        numbersFromZero("secondsOf", SPANS, INDEX, Spanledger::secondsOf);
    }

    private void restOf() {
        says(REST_OF, "Returns its REST.");
        for (int i = 0; i < RISING.length; i++) {
            due.answer("restOf in row " + i, rising(i).restOf(0), (int) RISING[i][1]);
        }
        says(REST_OF, NO_SPAN);
        numbersFromZero("restOf", SPANS, INDEX, Spanledger::restOf);
    }

    private void text() {
        says(TEXT, "Returns its TEXT.");
        for (int i = 0; i < RISING.length; i++) {
            due.answer("text in row " + i, rising(i).text(0), RISING[i][0] + "." + RISING[i][1]);
        }
        says(TEXT, NO_SPAN);
        numbersFromZero("text", SPANS, INDEX, Spanledger::text);
    }

    private void isZero() {
        says(IS_ZERO, "Returns whether it is ZERO.");
        for (int i = 0; i < RISING.length; i++) {
            due.answer("isZero in row " + i, rising(i).isZero(0), i == 8);
        }
        says(IS_ZERO, NO_SPAN);
        numbersFromZero("isZero", SPANS, INDEX, Spanledger::isZero);
    }

    private void isNegative() {
        says(IS_NEGATIVE, "Returns whether it is NEGATIVE.");
        for (int i = 0; i < RISING.length; i++) {
            due.answer("isNegative in row " + i, rising(i).isNegative(0), i < 8);
        }
        says(IS_NEGATIVE, NO_SPAN);
        numbersFromZero("isNegative", SPANS, INDEX, Spanledger::isNegative);
    }

    private static String allOf(Spanledger x, boolean areTotals) {
        StringBuilder all = new StringBuilder();
        for (int what = 0; what <= 5; what++) {
            all.append(what == 0 ? "" : " ").append(areTotals ? x.total(0, what) : x.part(0, what));
        }
        return all.toString();
    }

    private void total() {
        says(TOTAL, "Returns the TEXT of that; \"!\" if it is TOO GREAT.");
        due.answer("the greatest nanos", allOf(Put.of(9_223_372_036L, 854_775_807), true),
                "106751 2562047 153722867 9223372036 9223372036854 9223372036854775807");
        due.answer("a nano more", allOf(Put.of(9_223_372_036L, 854_775_808), true),
                "106751 2562047 153722867 9223372036 9223372036854 !");
        due.answer("the least nanos", allOf(Put.of(-9_223_372_037L, 145_224_192), true),
                "-106751 -2562047 -153722867 -9223372037 -9223372036854 -9223372036854775808");
        due.answer("a nano less", allOf(Put.of(-9_223_372_037L, 145_224_191), true),
                "-106751 -2562047 -153722867 -9223372037 -9223372036854 !");
        due.answer("the greatest millis", allOf(Put.of(9_223_372_036_854_775L, 807_999_999), true),
                "106751991167 2562047788015 153722867280912 9223372036854775 9223372036854775807 !");
        due.answer("a nano more", allOf(Put.of(9_223_372_036_854_775L, 808_000_000), true),
                "106751991167 2562047788015 153722867280912 9223372036854775 ! !");
        due.answer("the least millis", allOf(Put.of(-9_223_372_036_854_776L, 191_000_001), true),
                "-106751991167 -2562047788015 -153722867280912 -9223372036854776 -9223372036854775808 !");
        due.answer("a nano less", allOf(Put.of(-9_223_372_036_854_776L, 191_000_000), true),
                "-106751991167 -2562047788015 -153722867280912 -9223372036854776 ! !");
        says(TOTAL, NO_SPAN);
        numbersFromZero("total", SPANS, INDEX, (y, at) -> y.total(at, 5));
        due.thrown("no SPAN, what 6", INDEX, y -> y.total(6, 6));
        due.thrown("no SPAN, what -1", INDEX, y -> y.total(-1, -1));
        says(TOTAL, NO_KIND);
        numbersFromZero("total what", 6, ARGUMENT, (y, what) -> y.total(0, what));
        numbersFromZero("total what of ZERO", 6, ARGUMENT, (y, what) -> y.total(5, what));
    }

    private void part() {
        says(PART, "Returns the TEXT of that.");
        due.answer("ZERO", allOf(new Spanledger(), false), "0 0 0 0 0 0");
        due.answer("a nano", allOf(Put.of(0, 1), false), "0 0 0 0 0 1");
        due.answer("a nano below", allOf(Put.of(-1, 999_999_999), false), "0 0 0 -1 999 999999999");
        due.answer("almost a day", allOf(Put.of(86_399, 999_999_999), false), "0 23 59 59 999 999999999");
        due.answer("a day", allOf(Put.of(86_400, 0), false), "1 0 0 0 0 0");
        due.answer("almost a day below", allOf(Put.of(-86_399, 0), false), "0 -23 -59 -59 0 0");
        due.answer("a nano more than a day below", allOf(Put.of(-86_400, 1), false), "-1 0 0 0 0 1");
        due.answer("a day below", allOf(Put.of(-86_400, 0), false), "-1 0 0 0 0 0");
        due.answer("a nano less", allOf(Put.of(-86_401, 999_999_999), false), "-1 0 0 -1 999 999999999");
        due.answer("the most", allOf(Put.of(Put.MOST_SECONDS, 999_999_999), false),
                "46296296296296 7 6 40 999 999999999");
        due.answer("the least", allOf(Put.of(-Put.MOST_SECONDS, 0), false), "-46296296296296 -7 -6 -40 0 0");
        says(PART, NO_SPAN);
        numbersFromZero("part", SPANS, INDEX, (y, at) -> y.part(at, 5));
        due.thrown("no SPAN, what 6", INDEX, y -> y.part(6, 6));
        due.thrown("no SPAN, what -1", INDEX, y -> y.part(-1, -1));
        says(PART, NO_KIND);
        numbersFromZero("part what", 6, ARGUMENT, (y, what) -> y.part(0, what));
        numbersFromZero("part what of ZERO", 6, ARGUMENT, (y, what) -> y.part(5, what));
    }

    private void compare() {
        says(COMPARE, "Returns -1 if the one is less than the other one, 0 if they are the same number, otherwise 1.");
        for (int i = 0; i < RISING.length; i++) {
            due.answer("compare of row " + i + " and the same", rising(i).compare(0, 0), 0);
            for (int j = 0; j < RISING.length; j++) {
                due.answer("compare of rows " + i + ", " + j, both(i, j).compare(0, 1), Integer.compare(i, j));
            }
        }
        says(COMPARE, NO_SPAN_OF_BOTH);
        numbersFromZero("compare at", SPANS, INDEX, (y, at) -> y.compare(at, 1));
        numbersFromZero("compare other", SPANS, INDEX, (y, other) -> y.compare(1, other));
        numbersFromZero("compare both", SPANS, INDEX, (y, both) -> y.compare(both, both));
    }

    private void isLike() {
        says(IS_LIKE, "Returns whether they are ALIKE.");
        for (int i = 0; i < RISING.length; i++) {
            due.answer("isLike of row " + i + " and the same", rising(i).isLike(0, 0), true);
            for (int j = 0; j < RISING.length; j++) {
                due.answer("isLike of rows " + i + ", " + j, both(i, j).isLike(0, 1), i == j);
            }
        }
        says(IS_LIKE, NO_SPAN_OF_BOTH);
        numbersFromZero("isLike at", SPANS, INDEX, (y, at) -> y.isLike(at, 1));
        numbersFromZero("isLike other", SPANS, INDEX, (y, other) -> y.isLike(1, other));
        numbersFromZero("isLike both", SPANS, INDEX, (y, both) -> y.isLike(both, both));
    }

    private void greater() {
        says(GREATER, "Returns the number of the SPAN that is the greater one of both, of two that are ALIKE the first "
                + "told.");
        for (int i = 0; i < RISING.length; i++) {
            for (int j = 0; j < RISING.length; j++) {
                due.answer("greater of rows " + i + ", " + j, both(i, j).greater(0, 1), i >= j ? 0 : 1);
                due.answer("greater of them told the other way", both(i, j).greater(1, 0), j >= i ? 1 : 0);
            }
        }
        for (int at = 0; at < SPANS; at++) {
            due.answer("greater of one and the same", Due.furnished().greater(at, at), at);
        }
        says(GREATER, NO_SPAN_OF_BOTH);
        numbersFromZero("greater at", SPANS, INDEX, (y, at) -> y.greater(at, 1));
        numbersFromZero("greater other", SPANS, INDEX, (y, other) -> y.greater(1, other));
        numbersFromZero("greater both", SPANS, INDEX, (y, both) -> y.greater(both, both));
    }

    private void twins() {
        says(TWINS, "Returns how many of all pairs of SPANS (the one with the smaller number first) are ALIKE.");
        Spanledger x = new Spanledger();
        int[] left = {10, 6, 3, 1, 0};
        due.answer("all ALIKE", x.twins(), 15);
        for (int at = 0; at < 5; at++) {
            x.nanos(at, at - 2 < 0 ? at - 2 : at - 1, 0);
            due.answer("one less, " + at, x.twins(), left[at]);
        }
        for (int one = 0; one < SPANS; one++) {
            for (int other = one + 1; other < SPANS; other++) {
                due.answer("just " + one + " and " + other, justTwo(one, other).twins(), 1);
            }
        }
    }

    /** Six SPANS of which just two are ALIKE; the others lie but a nano apart. */
    private static Spanledger justTwo(int one, int other) {
        Spanledger x = new Spanledger();
        for (int at = 0; at < SPANS; at++) {
            x.nanos(at, at - 3, 0);
        }
        x.copy(other, one);
        return x;
    }
}
