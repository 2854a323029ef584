import java.util.function.Consumer;
import java.util.function.Function;

/** The Description: its first paragraph, moments, the ledger. (Spans, totals and parts: SpanBounds, TotalBounds.) */
final class DescriptionBounds extends Bounds {
    private static final String HERE = "Description";

    /** A call that is answered with REFUSED behind what goes before it. */
    private record Refusal(String call, Consumer<Spanledger> before, Function<Spanledger, Object> act) {
    }

    private static final Refusal[] REFUSALS = {
        new Refusal("days", x -> { }, x -> x.days(0, 46296297, 6)),
        new Refusal("hours", x -> { }, x -> x.hours(0, -111111112, 7)),
        new Refusal("minutes", x -> { }, x -> x.minutes(0, 666666667, 8)),
        new Refusal("seconds", x -> { }, x -> x.seconds(0, -400000001, 10)),
        new Refusal("secondsAnd", x -> { }, x -> x.secondsAnd(0, 4, 18, 1, 9)),
        new Refusal("plusDays", x -> Put.most(x, 0), x -> x.plusDays(0, 1, 0)),
        new Refusal("plusHours", x -> Put.most(x, 0), x -> x.plusHours(0, 1, 0)),
        new Refusal("plusMinutes", x -> Put.most(x, 0), x -> x.plusMinutes(0, 1, 0)),
        new Refusal("plusSeconds", x -> Put.most(x, 0), x -> x.plusSeconds(0, 1, 0)),
        new Refusal("plusMillis", x -> Put.most(x, 0), x -> x.plusMillis(0, 1, 0)),
        new Refusal("plusNanos", x -> Put.most(x, 0), x -> x.plusNanos(0, 1, 0)),
        new Refusal("minusDays", x -> Put.least(x, 0), x -> x.minusDays(0, 1, 0)),
        new Refusal("minusHours", x -> Put.least(x, 0), x -> x.minusHours(0, 1, 0)),
        new Refusal("minusMinutes", x -> Put.least(x, 0), x -> x.minusMinutes(0, 1, 0)),
        new Refusal("minusSeconds", x -> Put.least(x, 0), x -> x.minusSeconds(0, 1, 0)),
        new Refusal("minusMillis", x -> Put.least(x, 0), x -> x.minusMillis(0, 1, 0)),
        new Refusal("minusNanos", x -> Put.least(x, 0), x -> x.minusNanos(0, 1, 0)),
        new Refusal("plus", x -> Put.most(x, 0), x -> x.plus(0, 4)),
        new Refusal("minus", x -> Put.least(x, 0), x -> x.minus(0, 4)),
        new Refusal("negate", x -> Put.most(x, 0), x -> x.negate(0)),
        new Refusal("sum", DescriptionBounds::postTooMuch, x -> x.sum(0)),
    };

    /** Calls to which an exception is due: one alone, or several of which the first one named goes. */
    private record Thrower(String call, Class<? extends RuntimeException> kind, Function<Spanledger, Object> act) {
    }

    /** On an object whose ledger is full of what is too much together. */
    private static final Thrower[] THROWERS = {
        new Thrower("zero", INDEX, x -> x.zero(6)),
        new Thrower("days, k too", INDEX, x -> x.days(6, 1, 19)),
        new Thrower("hours, no AMOUNT too", INDEX, x -> x.hours(-1, 10, 18)),
        new Thrower("minutes", ARGUMENT, x -> x.minutes(0, 10, 18)),
        new Thrower("seconds", ARGUMENT, x -> x.seconds(0, 1, -1)),
        new Thrower("millis, k too", INDEX, x -> x.millis(6, 1, -1)),
        new Thrower("nanos", ARGUMENT, x -> x.nanos(0, 0, 19)),
        new Thrower("secondsAnd, all else too", INDEX, x -> x.secondsAnd(6, 10, 18, 1, 19)),
        new Thrower("secondsAnd, its NANOS alone", ARGUMENT, x -> x.secondsAnd(0, 1, 0, 10, 18)),
        new Thrower("between", INDEX, x -> x.between(0, 0, 4)),
        new Thrower("copy", INDEX, x -> x.copy(0, 6)),
        new Thrower("swap", INDEX, x -> x.swap(0, 6)),
        new Thrower("plusDays, no AMOUNT too", INDEX, x -> x.plusDays(6, 10, 18)),
        new Thrower("plusNanos", ARGUMENT, x -> x.plusNanos(0, 1, 19)),
        new Thrower("minusHours, k too", INDEX, x -> x.minusHours(-1, 1, 19)),
        new Thrower("minusMillis", ARGUMENT, x -> x.minusMillis(0, -10, 18)),
        new Thrower("plus", INDEX, x -> x.plus(0, 6)),
        new Thrower("minus", INDEX, x -> x.minus(0, -1)),
        new Thrower("negate", INDEX, x -> x.negate(6)),
        new Thrower("abs", INDEX, x -> x.abs(-1)),
        new Thrower("moment, all else too", INDEX, x -> x.moment(4, 24, 60, 60, 1000000000)),
        new Thrower("moment, its nano alone", ARGUMENT, x -> x.moment(0, 23, 59, 59, 1000000000)),
        new Thrower("secondOfDay", INDEX, x -> x.secondOfDay(4)),
        new Thrower("total, what too", INDEX, x -> x.total(6, 6)),
        new Thrower("total", ARGUMENT, x -> x.total(0, 6)),
        new Thrower("part, what too", INDEX, x -> x.part(-1, -1)),
        new Thrower("part", ARGUMENT, x -> x.part(0, -1)),
        new Thrower("post, full too", INDEX, x -> x.post(6)),
        new Thrower("post", STATE, x -> x.post(0)),
        new Thrower("fetch, both", INDEX, x -> x.fetch(6, 12)),
        new Thrower("fetch", INDEX, x -> x.fetch(0, 12)),
        new Thrower("set", INDEX, x -> x.set(0, 6)),
        new Thrower("set", INDEX, x -> x.set(12, 0)),
        new Thrower("entry", INDEX, x -> x.entry(12)),
        new Thrower("place", INDEX, x -> x.place(6)),
        new Thrower("sum, REFUSED too", INDEX, x -> x.sum(6)),
        new Thrower("house", ARGUMENT, x -> x.house(5)),
    };

    DescriptionBounds(Due due, Sentences document) {
        super(due, document);
    }

    @Override
    void run() {
        withoutBound();
        none();
        refused();
        exceptionsChangeNothing();
        firstNamedGoes();
        towardsZero();
        moments();
        between();
        ledger();
        entryIsWhatItWas();
        sorted();
    }

    /** The most, twelve times, is too much together; SPAN 0 is the most. */
    private static void postTooMuch(Spanledger x) {
        Put.most(x, 0);
        clearAndPost(x, 0, FULL);
    }

    private void withoutBound() {
        says(HERE, "Whole numbers, without bound where nothing is said.");
        Spanledger x = Put.of(-4_000_000_000_000_000_000L, 0);
        due.answer("an AMOUNT that does not FIT by itself", x.plusSeconds(0, 8, 18), 1);
        due.answer("what it comes to", x.text(0), "4000000000000000000.0");
        due.answer("parts that go beyond the seconds", x.secondsAnd(0, 3, 0, -9, 18) + " " + x.text(0),
                "-1 -8999999997.0");
        due.refused("days whose seconds in a long would be some that FIT", y -> { }, y -> y.days(0, 6, 15));
        due.refused("hours of that kind", y -> { }, y -> y.plusHours(0, 1, 18));
        due.refused("minutes of that kind", y -> { }, y -> y.minusMinutes(0, 4, 18));
    }

    private void none() {
        says(HERE, "NONE is -1.");
        Spanledger x = new Spanledger();
        due.answer("place in an empty ledger", x.place(0), -1);
        x.post(0);
        due.answer("place in a ledger that has it", x.place(0), 0);
        x.nanos(0, 1, 0);
        due.answer("place in a ledger that has another one", x.place(0), -1);
    }

    private void refused() {
        says(HERE, "REFUSED is -9: it is told where a method names it; nothing changes then, but that it is counted "
                + "(exceptions go ahead of it).");
        for (Refusal each : REFUSALS) {
            due.refused(each.call, each.before, each.act);
        }
        Spanledger x = new Spanledger();
        for (int i = 1; i <= 200; i++) {
            due.answer("REFUSED again", x.seconds(0, 9, 18), -9);
            due.answer("REFUSED is counted", x.house(1), i);
        }
        due.thrown("an exception ahead of REFUSED: no such SPAN", INDEX, y -> y.seconds(6, 9, 18));
        due.thrown("an exception ahead of REFUSED: no AMOUNT", ARGUMENT, y -> y.secondsAnd(0, 9, 18, 10, 18));
        due.thrown("an exception ahead of REFUSED: plus", INDEX, y -> Put.most(y, 0), y -> y.plus(0, 6));
        due.thrown("an exception ahead of REFUSED: sum", INDEX, DescriptionBounds::postTooMuch, y -> y.sum(6));
    }

    private void exceptionsChangeNothing() {
        says(HERE, "A method that throws an exception changes nothing.");
        Spanledger x = Due.furnished();
        Spanledger twin = Due.furnished();
        postTooMuch(x);
        postTooMuch(twin);
        for (Thrower each : THROWERS) {
            due.answer(each.call, Due.outcomeOf(each.act, x), each.kind);
        }
        due.answer("after all of them", Due.stateOf(x), Due.stateOf(twin));
        due.answer("the digest after all of them", x.digest(), twin.digest());
        for (Thrower each : THROWERS) {
            due.thrown(each.call, each.kind, DescriptionBounds::postTooMuch, each.act);
        }
    }

    private void firstNamedGoes() {
        says(HERE, "If several exceptions apply, the one that is named first is thrown.");
        due.thrown("no SPAN, k wrong", INDEX, y -> y.days(6, 1, 19));
        due.thrown("no SPAN, no AMOUNT", INDEX, y -> y.minusNanos(-1, -10, 18));
        due.thrown("no SPAN, no AMOUNT of both", INDEX, y -> y.secondsAnd(6, 10, 18, 10, 18));
        due.thrown("no MOMENT, no hour", INDEX, y -> y.moment(4, -1, 0, 0, 0));
        due.thrown("no SPAN, no TOTAL", INDEX, y -> y.total(6, 6));
        due.thrown("no SPAN, no PART", INDEX, y -> y.part(6, 6));
        due.thrown("no SPAN, a full ledger", INDEX, y -> clearAndPost(y, 0, FULL), y -> y.post(-1));
        due.thrown("a SPAN, a full ledger", STATE, y -> clearAndPost(y, 0, FULL), y -> y.post(0));
    }

    private void towardsZero() {
        says(HERE, "\"/\" and MODULO, where \"towards 0\" is said: the quotient without its broken part, and what is "
                + "left over then, which has the sign of what was divided (-61 / 60 is -1, and -1 is left over).");
        int[][] due60 = {
            {-121, -2, -1}, {-120, -2, 0}, {-119, -1, -59}, {-61, -1, -1}, {-60, -1, 0}, {-59, 0, -59},
            {-1, 0, -1}, {0, 0, 0}, {1, 0, 1}, {59, 0, 59}, {60, 1, 0}, {61, 1, 1}, {119, 1, 59}, {120, 2, 0},
        };
        for (int[] row : due60) {
            Spanledger x = Put.of(row[0], 0);
            due.answer(row[0] + " / 60", x.total(0, 2), "" + row[1]);
            due.answer(row[0] + " MODULO 60", x.part(0, 3), "" + row[2]);
        }
    }

    private void moments() {
        says(HERE, "MOMENTS 0 to 3 of one day (all at its beginning at first): hour 0 to 23, minute and second 0 to "
                + "59, nano 0 to 999,999,999.");
        Spanledger x = new Spanledger();
        for (int which = 0; which < MOMENTS; which++) {
            due.answer("at first", x.secondOfDay(which) + " " + x.between(0, 0, which), "0 0");
        }
        numbersFromZero("which", 4, INDEX, (y, number) -> y.moment(number, 1, 2, 3, 4));
        numbersFromZero("hour", 24, ARGUMENT, (y, number) -> y.moment(1, number, 2, 3, 4));
        numbersFromZero("minute", 60, ARGUMENT, (y, number) -> y.moment(1, 1, number, 3, 4));
        numbersFromZero("second", 60, ARGUMENT, (y, number) -> y.moment(1, 1, 2, number, 4));
        numbersFromZero("nano", 1_000_000_000, ARGUMENT, (y, number) -> y.moment(1, 1, 2, 3, number));
    }

    private void between() {
        says(HERE, "What is BETWEEN a MOMENT and another one: how many NANOS the other one is behind it (below 0, if "
                + "it is ahead).");
        Spanledger x = new Spanledger();
        x.moment(1, 0, 0, 0, 1);
        x.moment(2, 23, 59, 59, 999_999_998);
        x.moment(3, 23, 59, 59, 999_999_999);
        due.answer("a nano behind", x.between(0, 0, 1) + " " + x.text(0), "1 0.1");
        due.answer("at the same", x.between(0, 1, 1) + " " + x.text(0), "0 0.0");
        due.answer("a nano ahead", x.between(0, 1, 0) + " " + x.text(0), "-1 -1.999999999");
        due.answer("a nano behind, late", x.between(0, 2, 3) + " " + x.text(0), "1 0.1");
        due.answer("a nano ahead, late", x.between(0, 3, 2) + " " + x.text(0), "-1 -1.999999999");
        due.answer("the day but a nano", x.between(0, 0, 3) + " " + x.text(0), "1 86399.999999999");
        due.answer("and the other way", x.between(0, 3, 0) + " " + x.text(0), "-1 -86400.1");
    }

    private void ledger() {
        says(HERE, "The LEDGER is a row of at most 12 SPANS, ENTRIES, numbered from 0 on (empty at first).");
        Spanledger x = new Spanledger();
        due.answer("at first", x.house(0), 0);
        due.answer("no ENTRY 0 at first", Due.outcomeOf(y -> y.entry(0), x), INDEX);
        for (int i = 0; i < FULL; i++) {
            x.nanos(0, i, 0);
            due.answer("one more", x.post(0), i + 1);
            due.answer("its number", x.entry(i), "0." + i);
            due.answer("the first one's", x.entry(0), "0.0");
        }
        due.answer("no thirteenth", Due.outcomeOf(y -> y.post(0), x), STATE);
        due.answer("still twelve", x.house(0), 12);
    }

    private void entryIsWhatItWas() {
        says(HERE, "An ENTRY is what the SPAN was as it was posted.");
        Spanledger x = Put.of(7, 8);
        x.post(0);
        x.negate(0);
        x.post(0);
        x.zero(0);
        x.swap(0, 5);
        x.copy(0, 4);
        x.sum(0);
        x.fetch(0, 1);
        x.plusDays(0, 1, 0);
        due.answer("the entries", entriesOf(x), "7.8 -8.999999992");
    }

    private void sorted() {
        says(HERE, "SORTED: by rising numbers.");
        Spanledger x = new Spanledger();
        long[][] falling = {
            {Put.MOST_SECONDS, 999_999_999}, {Put.MOST_SECONDS, 999_999_998}, {1, 0}, {0, 999_999_999}, {0, 1}, {0, 1},
            {0, 0}, {-1, 999_999_999}, {-1, 0}, {-Put.MOST_SECONDS, 1}, {-Put.MOST_SECONDS, 0}, {-Put.MOST_SECONDS, 0},
        };
        for (long[] each : falling) {
            Put.span(x, 0, each[0], (int) each[1]);
            x.post(0);
        }
        due.answer("sort", x.sort(), 12);
        due.answer("sorted", entriesOf(x), "-4000000000000000000.0 -4000000000000000000.0 -4000000000000000000.1 -1.0 "
                + "-1.999999999 0.0 0.1 0.1 0.999999999 1.0 4000000000000000000.999999998 "
                + "4000000000000000000.999999999");
    }
}
