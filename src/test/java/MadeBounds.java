/** Promises 1, 2 and 9 to 12: a new object, and spans that are made, but for those of one AMOUNT. */
final class MadeBounds extends Bounds {
    private static final String NEW = "Promise 1: A new object";
    private static final String ZERO = "Promise 2: zero";
    private static final String SECONDS_AND = "Promise 9: secondsAnd";
    private static final String BETWEEN = "Promise 10: between";
    private static final String COPY = "Promise 11: copy";
    private static final String SWAP = "Promise 12: swap";

    MadeBounds(Due due, Sentences document) {
        super(due, document);
    }

    @Override
    void run() {
        newObject();
        zero();
        secondsAnd();
        secondsAndRefused();
        secondsAndThrows();
        between();
        copy();
        swap();
    }

    private void newObject() {
        says(NEW, "Creates six spans that are zero, four moments at the day's beginning, and an empty ledger.");
        Spanledger x = new Spanledger();
        due.answer("a new object", Due.stateOf(x),
                "spans 0.0 0.0 0.0 0.0 0.0 0.0 moments 0 0 0 0 entries knocks 0 refused 0");
        due.answer("no seventh span", Due.outcomeOf(y -> y.text(6), x), INDEX);
        due.answer("no fifth moment", Due.outcomeOf(y -> y.secondOfDay(4), x), INDEX);
        due.answer("no entry", Due.outcomeOf(y -> y.entry(0), x), INDEX);
        due.answer("nothing to take", Due.outcomeOf(Spanledger::take, x), STATE);
        for (int which = 1; which < MOMENTS; which++) {
            due.answer("moments are the same, nanos too", x.between(0, 0, which), 0);
        }
        x.moment(0, 0, 0, 0, 1);
        due.answer("and at the beginning", x.between(0, 1, 0) + " " + x.text(0), "1 0.1");
    }

    private void zero() {
        says(ZERO, "A SPAN becomes ZERO.");
        Spanledger x = Due.furnished();
        for (int at = 0; at < SPANS; at++) {
            x.zero(at);
            due.answer("zero(" + at + ")", x.text(at) + " " + x.house(3), "0.0 " + (at < 5 ? at + 2 : 6));
        }
        says(ZERO, "Returns the SIGN that it had.");
        Put.least(x, 1);
        x.nanos(2, -1, 0);
        x.nanos(3, 1, 0);
        Put.most(x, 4);
        due.answer("of one that is ZERO", x.zero(0), 0);
        due.answer("of the least", x.zero(1), -1);
        due.answer("of a nano below", x.zero(2), -1);
        due.answer("of a nano", x.zero(3), 1);
        due.answer("of the most", x.zero(4), 1);
        due.answer("once more", x.zero(4), 0);
        says(ZERO, NO_SPAN);
        numbersFromZero("zero", SPANS, INDEX, Spanledger::zero);
    }

    private void secondsAnd() {
        says(SECONDS_AND, "A SPAN becomes an AMOUNT of SECONDS, and another AMOUNT of NANOS with it.");
        Spanledger x = Due.furnished();
        due.answer("1 and 999999999", x.secondsAnd(0, 1, 0, 999_999_999, 0) + " " + x.text(0), "1 1.999999999");
        due.answer("1 and a second", x.secondsAnd(0, 1, 0, 1, 9) + " " + x.text(0), "1 2.0");
        due.answer("1 and a nano less", x.secondsAnd(0, 1, 0, -1, 0) + " " + x.text(0), "1 0.999999999");
        due.answer("-1 and a nano less", x.secondsAnd(0, -1, 0, -1, 0) + " " + x.text(0), "-1 -2.999999999");
        due.answer("-1 and a nano more", x.secondsAnd(0, -1, 0, 1, 0) + " " + x.text(0), "-1 -1.1");
        due.answer("-1 and a second", x.secondsAnd(0, -1, 0, 1, 9) + " " + x.text(0), "0 0.0");
        due.answer("0 and 0", x.secondsAnd(0, 0, 18, 0, 18) + " " + x.text(0), "0 0.0");
        due.answer("0 and the greatest AMOUNT", x.secondsAnd(0, 0, 0, 922_337_203, 10) + " " + x.text(0),
                "1 9223372030.0");
        due.answer("0 and the least AMOUNT", x.secondsAnd(0, 0, 0, -922_337_203, 10) + " " + x.text(0),
                "-1 -9223372030.0");
        due.answer("the k of either is its own", x.secondsAnd(0, 1, 18, 1, 0) + " " + x.text(0),
                "1 1000000000000000000.1");
        due.answer("and the other way", x.secondsAnd(0, 1, 0, 1, 18) + " " + x.text(0), "1 1000000001.0");
    }

    private void secondsAndRefused() {
        says(SECONDS_AND, "Returns its SIGN then; REFUSED if it would not FIT then.");
        Spanledger x = new Spanledger();
        due.answer("the most", x.secondsAnd(0, 4, 18, 999_999_999, 0) + " " + x.text(0),
                "1 4000000000000000000.999999999");
        due.answer("a nano less", x.secondsAnd(0, 4, 18, 999_999_998, 0) + " " + x.text(0),
                "1 4000000000000000000.999999998");
        due.answer("the least", x.secondsAnd(0, -4, 18, 0, 0) + " " + x.text(0), "-1 -4000000000000000000.0");
        due.answer("a nano more", x.secondsAnd(0, -4, 18, 1, 0) + " " + x.text(0), "-1 -4000000000000000000.1");
        due.answer("seconds at the bound, nanos far inside", x.secondsAnd(0, 4, 18, -9, 18) + " " + x.text(0),
                "1 3999999991000000000.0");
        due.answer("and below", x.secondsAnd(0, -4, 18, 9, 18) + " " + x.text(0), "-1 -3999999991000000000.0");
        due.answer("ZERO", x.secondsAnd(0, 5, 0, -5, 9), 0);
        due.answer("a nano below", x.secondsAnd(0, 2, 0, -2_000_000_001, 0), -1);
        due.answer("a nano above", x.secondsAnd(0, 2, 0, -1_999_999_999, 0), 1);
        due.refused("a nano more than the most", y -> { }, y -> y.secondsAnd(0, 4, 18, 1_000_000_000, 0));
        due.refused("a nano less than the least", y -> { }, y -> y.secondsAnd(0, -4, 18, -1, 0));
        due.refused("the next seconds above", y -> { }, y -> y.secondsAnd(0, 400_000_001, 10, 0, 0));
        due.refused("the next seconds above, the least nanos", y -> { },
                y -> y.secondsAnd(0, 400_000_001, 10, -922_337_203, 10));
        due.refused("the next seconds below", y -> { }, y -> y.secondsAnd(0, -400_000_001, 10, 0, 0));
        due.refused("the next seconds below, the greatest nanos", y -> { },
                y -> y.secondsAnd(0, -400_000_001, 10, 922_337_203, 10));
        due.refused("both the greatest", y -> { }, y -> y.secondsAnd(0, 922_337_203, 10, 922_337_203, 10));
        due.refused("both the least", y -> { }, y -> y.secondsAnd(0, -922_337_203, 10, -922_337_203, 10));
    }

    private void secondsAndThrows() {
        says(SECONDS_AND, NO_SPAN);
        numbersFromZero("secondsAnd", SPANS, INDEX, (y, at) -> y.secondsAnd(at, 1, 0, 1, 0));
        numbersFromZero("secondsAnd that does not FIT", SPANS, INDEX, (y, at) -> y.secondsAnd(at, 9, 18, 1, 0));
        due.thrown("no SPAN, k wrong", INDEX, y -> y.secondsAnd(6, 1, 19, 1, 0));
        due.thrown("no SPAN, j wrong", INDEX, y -> y.secondsAnd(6, 1, 0, 1, 19));
        says(SECONDS_AND, "Throws `IllegalArgumentException` if k or j is not 0 to 18, or a and k, or b and j, are no "
                + "AMOUNT");
        numbersFromZero("k", 19, ARGUMENT, (y, k) -> y.secondsAnd(0, 1, k, 1, 0));
        numbersFromZero("j", 19, ARGUMENT, (y, j) -> y.secondsAnd(0, 1, 0, 1, j));
        due.thrown("k wrong, a 0", ARGUMENT, y -> y.secondsAnd(0, 0, 19, 0, 0));
        due.thrown("j wrong, b 0", ARGUMENT, y -> y.secondsAnd(0, 0, 0, 0, 19));
        Spanledger x = new Spanledger();
        due.answer("the greatest AMOUNT of NANOS", x.secondsAnd(0, 0, 0, 9, 18), 1);
        due.answer("the greatest AMOUNT of SECONDS", x.secondsAnd(0, 9, 18, 0, 0), Due.REFUSED);
        due.answer("the least AMOUNT of SECONDS", x.secondsAnd(0, -9, 18, 0, 0), Due.REFUSED);
        due.thrown("a and k one more", ARGUMENT, y -> y.secondsAnd(0, 10, 18, 0, 0));
        due.thrown("a and k one less", ARGUMENT, y -> y.secondsAnd(0, -10, 18, 0, 0));
        due.thrown("a and k just more", ARGUMENT, y -> y.secondsAnd(0, 922_337_204, 10, 0, 0));
        due.thrown("a and k just less", ARGUMENT, y -> y.secondsAnd(0, -922_337_204, 10, 0, 0));
        due.thrown("b and j one more", ARGUMENT, y -> y.secondsAnd(0, 0, 0, 10, 18));
        due.thrown("b and j one less", ARGUMENT, y -> y.secondsAnd(0, 0, 0, -10, 18));
        due.thrown("b and j just more", ARGUMENT, y -> y.secondsAnd(0, 0, 0, 922_337_204, 10));
        due.thrown("b and j just less", ARGUMENT, y -> y.secondsAnd(0, 0, 0, -922_337_204, 10));
        due.thrown("b and j no AMOUNT, the seconds do not FIT", ARGUMENT, y -> y.secondsAnd(0, 9, 18, 10, 18));
    }

    private void between() {
        says(BETWEEN, "A SPAN becomes what is BETWEEN two MOMENTS.");
        Spanledger x = Due.furnished();
        x.moment(0, 0, 0, 0, 0);
        x.moment(1, 23, 59, 59, 999_999_999);
        x.moment(2, 0, 0, 1, 0);
        x.moment(3, 0, 0, 0, 999_999_999);
        x.between(0, 0, 1);
        due.answer("the whole day but a nano", x.text(0), "86399.999999999");
        x.between(1, 1, 0);
        due.answer("the other way", x.text(1), "-86400.1");
        x.between(2, 2, 2);
        due.answer("of a MOMENT and the same", x.text(2), "0.0");
        x.between(5, 3, 2);
        due.answer("a nano across a second", x.text(5), "0.1");
        says(BETWEEN, "Returns its SIGN then.");
        due.answer("a nano", x.between(0, 3, 2), 1);
        due.answer("none", x.between(0, 3, 3), 0);
        due.answer("a nano below", x.between(0, 2, 3), -1);
        due.answer("the longest", x.between(0, 0, 1), 1);
        due.answer("the shortest", x.between(0, 1, 0), -1);
        says(BETWEEN, "Throws `IndexOutOfBoundsException` if there is no such SPAN or MOMENT");
        numbersFromZero("between at", SPANS, INDEX, (y, at) -> y.between(at, 0, 1));
        numbersFromZero("between from", MOMENTS, INDEX, (y, from) -> y.between(0, from, 1));
        numbersFromZero("between to", MOMENTS, INDEX, (y, to) -> y.between(0, 0, to));
        numbersFromZero("between both", MOMENTS, INDEX, (y, both) -> y.between(0, both, both));
    }

    private void copy() {
        says(COPY, "A SPAN becomes what another one is.");
        Spanledger x = Due.furnished();
        Put.most(x, 0);
        Put.least(x, 1);
        x.copy(5, 0);
        due.answer("the most", x.text(5) + " " + x.text(0),
                "4000000000000000000.999999999 4000000000000000000.999999999");
        x.copy(5, 1);
        due.answer("the least", x.text(5) + " " + x.text(1), "-4000000000000000000.0 -4000000000000000000.0");
        x.copy(1, 1);
        due.answer("the same", x.text(1), "-4000000000000000000.0");
        says(COPY, "Returns its SIGN then.");
        x.zero(3);
        due.answer("of the most", x.copy(4, 0), 1);
        due.answer("of a nano below", x.copy(4, 2), -1);
        due.answer("of ZERO", x.copy(4, 3), 0);
        due.answer("of the same above", x.copy(0, 0), 1);
        due.answer("of the same below", x.copy(1, 1), -1);
        due.answer("of the same that is ZERO", x.copy(3, 3), 0);
        says(COPY, NO_SPAN_OF_BOTH);
        numbersFromZero("copy at", SPANS, INDEX, (y, at) -> y.copy(at, 1));
        numbersFromZero("copy from", SPANS, INDEX, (y, from) -> y.copy(1, from));
        numbersFromZero("copy both", SPANS, INDEX, (y, both) -> y.copy(both, both));
    }

    private void swap() {
        says(SWAP, "Two SPANS change places.");
        Spanledger x = Due.furnished();
        Put.most(x, 0);
        Put.least(x, 5);
        x.swap(0, 5);
        due.answer("the most and the least", x.text(0) + " " + x.text(5),
                "-4000000000000000000.0 4000000000000000000.999999999");
        x.swap(5, 5);
        due.answer("one with the same", x.text(5), "4000000000000000000.999999999");
        due.answer("the others stay", x.text(1) + " " + x.text(4), "-7001.991100000 12.345000000");
        says(SWAP, "Returns how many of both are NEGATIVE (one that is told twice counts twice).");
        x.zero(3);
        x.nanos(4, 1, 0);
        due.answer("neither, ZERO and a nano", x.swap(3, 4), 0);
        due.answer("the first then", x.swap(3, 2), 1);
        due.answer("the second then", x.swap(3, 4), 1);
        due.answer("both", x.swap(0, 1), 2);
        due.answer("one below told twice", x.swap(0, 0), 2);
        due.answer("one above told twice", x.swap(5, 5), 0);
        x.zero(3);
        due.answer("ZERO told twice", x.swap(3, 3), 0);
        says(SWAP, NO_SPAN_OF_BOTH);
        numbersFromZero("swap at", SPANS, INDEX, (y, at) -> y.swap(at, 1));
        numbersFromZero("swap other", SPANS, INDEX, (y, other) -> y.swap(1, other));
        numbersFromZero("swap both", SPANS, INDEX, (y, both) -> y.swap(both, both));
    }
}
