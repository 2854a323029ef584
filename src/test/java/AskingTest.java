import java.util.function.ObjIntConsumer;

/** Promises 31 to 41: what is asked of spans. */
public final class AskingTest {
    private static final Class<IndexOutOfBoundsException> INDEX = IndexOutOfBoundsException.class;
    private static final Class<IllegalArgumentException> ARGUMENT = IllegalArgumentException.class;

    private static final Due due = new Due("AskingTest");

    public static void main(String[] args) {
        texts();
        signs();
        totals();
        totalsTooGreat();
        parts();
        orders();
        greater();
        twins();
        wrongSpans();
        wrongKinds();
        due.close();
    }

    private static void told(String want, ObjIntConsumer<Spanledger> make) {
        Spanledger x = new Spanledger();
        make.accept(x, 4);
        String all = x.secondsOf(4) + " " + x.restOf(4) + " " + x.text(4);
        due.answer("secondsOf, restOf, text", all, want);
    }

    private static void texts() {
        told("0 0 0.0", (x, at) -> { });
        told("5 0 5.0", (x, at) -> x.seconds(at, 5, 0));
        told("0 40 0.40", (x, at) -> x.nanos(at, 40, 0));
        told("0 400 0.400", (x, at) -> x.nanos(at, 4, 2));
        told("-1 999999999 -1.999999999", (x, at) -> x.nanos(at, -1, 0));
        told("-1 1 -1.1", (x, at) -> x.nanos(at, -999999999, 0));
        told("-1 0 -1.0", (x, at) -> x.nanos(at, -1, 9));
        told("-2 999999999 -2.999999999", (x, at) -> x.nanos(at, -1000000001, 0));
        told("10 100000000 10.100000000", (x, at) -> x.secondsAnd(at, 1, 1, 1, 8));
        told("1000000000000000000 0 1000000000000000000.0", (x, at) -> x.seconds(at, 1, 18));
        told("999999999000000000 0 999999999000000000.0", (x, at) -> x.seconds(at, 999999999, 9));
        told("-100 0 -100.0", (x, at) -> x.seconds(at, -1, 2));
        told("4000000000000000000 999999999 4000000000000000000.999999999",
                (x, at) -> x.secondsAnd(at, 4, 18, 999999999, 0));
        told("-4000000000000000000 1 -4000000000000000000.1", (x, at) -> x.secondsAnd(at, -4, 18, 1, 0));
    }

    private static void signs() {
        Spanledger x = new Spanledger();
        due.answer("isZero of ZERO", x.isZero(0), true);
        due.answer("isNegative of ZERO", x.isNegative(0), false);
        x.nanos(0, 1, 0);
        due.answer("isZero of a nano", x.isZero(0), false);
        due.answer("isNegative of a nano", x.isNegative(0), false);
        x.nanos(0, -1, 0);
        due.answer("isZero of a nano below", x.isZero(0), false);
        due.answer("isNegative of a nano below", x.isNegative(0), true);
        x.seconds(0, 1, 0);
        due.answer("isZero of a second", x.isZero(0), false);
        due.answer("isNegative of a second", x.isNegative(0), false);
        x.seconds(0, -4, 18);
        due.answer("isZero of the least", x.isZero(0), false);
        due.answer("isNegative of the least", x.isNegative(0), true);
        due.answer("isNegative of another one", x.isNegative(1), false);
    }

    private static String totalsOf(Spanledger x, int at) {
        StringBuilder all = new StringBuilder();
        for (int what = 0; what <= 5; what++) {
            all.append(what == 0 ? "" : " ").append(x.total(at, what));
        }
        return all.toString();
    }

    private static void totals() {
        Spanledger x = new Spanledger();
        due.answer("totals of ZERO", totalsOf(x, 0), "0 0 0 0 0 0");
        x.nanos(0, -1, 0);
        due.answer("totals of a nano below", totalsOf(x, 0), "0 0 0 -1 0 -1");
        x.millis(0, -59500, 0);
        due.answer("totals of -59.5 seconds", totalsOf(x, 0), "0 0 -1 -60 -59500 -59500000000");
        x.seconds(0, -61, 0);
        due.answer("totals of -61 seconds", totalsOf(x, 0), "0 0 -1 -61 -61000 -61000000000");
        x.secondsAnd(0, 90061, 0, 1999999, 0);
        due.answer("totals of a day, an hour, a minute and more", totalsOf(x, 0),
                "1 25 1501 90061 90061001 90061001999999");
        x.secondsAnd(0, -90061, 0, -1999999, 0);
        due.answer("totals of that below", totalsOf(x, 0), "-1 -25 -1501 -90062 -90061001 -90061001999999");
        x.seconds(0, -86399, 0);
        due.answer("totals of almost a day below", totalsOf(x, 0), "0 -23 -1439 -86399 -86399000 -86399000000000");
        x.nanos(0, -1000001, 0);
        due.answer("totals of a milli and a nano below", totalsOf(x, 0), "0 0 0 -1 -1 -1000001");
        x.nanos(0, -1000000, 0);
        due.answer("totals of a milli below", totalsOf(x, 0), "0 0 0 -1 -1 -1000000");
        x.nanos(0, -999999, 0);
        due.answer("totals of almost a milli below", totalsOf(x, 0), "0 0 0 -1 0 -999999");
    }

    private static void totalsTooGreat() {
        Spanledger x = new Spanledger();
        x.nanos(0, 922337203, 10);
        x.plusNanos(0, 6854775, 3);
        x.plusNanos(0, 807, 0);
        due.answer("the most nanos", x.total(0, 5), "9223372036854775807");
        x.plusNanos(0, 1, 0);
        due.answer("a nano more", x.total(0, 5), "!");
        due.answer("its millis", x.total(0, 4), "9223372036854");
        x.nanos(0, -922337203, 10);
        x.plusNanos(0, -6854775, 3);
        x.plusNanos(0, -808, 0);
        due.answer("the least nanos", x.total(0, 5), "-9223372036854775808");
        x.minusNanos(0, 1, 0);
        due.answer("a nano less", x.total(0, 5), "!");
        x.millis(0, 922337203, 10);
        x.plusMillis(0, 6854775, 3);
        x.plusMillis(0, 807, 0);
        due.answer("the most millis", x.total(0, 4), "9223372036854775807");
        x.plusNanos(0, 999999, 0);
        due.answer("the most millis and almost one", x.total(0, 4), "9223372036854775807");
        x.plusNanos(0, 1, 0);
        due.answer("a milli more", x.total(0, 4), "!");
        x.millis(0, -922337203, 10);
        x.plusMillis(0, -6854775, 3);
        x.plusMillis(0, -808, 0);
        due.answer("the least millis", x.total(0, 4), "-9223372036854775808");
        x.minusNanos(0, 999999, 0);
        due.answer("the least millis and almost one less", x.total(0, 4), "-9223372036854775808");
        x.minusNanos(0, 1, 0);
        due.answer("a milli less", x.total(0, 4), "!");
        x.secondsAnd(0, 4, 18, 999999999, 0);
        due.answer("totals of the most", totalsOf(x, 0),
                "46296296296296 1111111111111111 66666666666666666 4000000000000000000 ! !");
        x.seconds(0, -4, 18);
        due.answer("totals of the least", totalsOf(x, 0),
                "-46296296296296 -1111111111111111 -66666666666666666 -4000000000000000000 ! !");
        x.nanos(0, 922337204, 9);
        due.answer("just seconds below the most", x.total(0, 5), "922337204000000000");
        x.seconds(0, 922337204, 1);
        due.answer("just seconds above the most", x.total(0, 5), "!");
        x.seconds(0, -922337204, 1);
        due.answer("just seconds below the least", x.total(0, 5), "!");
    }

    private static String partsOf(Spanledger x, int at) {
        StringBuilder all = new StringBuilder();
        for (int what = 0; what <= 5; what++) {
            all.append(what == 0 ? "" : " ").append(x.part(at, what));
        }
        return all.toString();
    }

    private static void parts() {
        Spanledger x = new Spanledger();
        due.answer("parts of ZERO", partsOf(x, 0), "0 0 0 0 0 0");
        x.nanos(0, -1, 0);
        due.answer("parts of a nano below", partsOf(x, 0), "0 0 0 -1 999 999999999");
        x.secondsAnd(0, 183845, 0, 6000007, 0);
        due.answer("parts of two days, three hours, four minutes, five seconds", partsOf(x, 0), "2 3 4 5 6 6000007");
        x.seconds(0, -183845, 0);
        due.answer("parts of that below", partsOf(x, 0), "-2 -3 -4 -5 0 0");
        x.secondsAnd(0, -183845, 0, -999000, 0);
        due.answer("parts of that and less", partsOf(x, 0), "-2 -3 -4 -6 999 999001000");
        x.seconds(0, 86399, 0);
        due.answer("parts of almost a day", partsOf(x, 0), "0 23 59 59 0 0");
        x.seconds(0, -86400, 0);
        due.answer("parts of a day below", partsOf(x, 0), "-1 0 0 0 0 0");
        x.nanos(0, 999999, 0);
        due.answer("parts of almost a milli", partsOf(x, 0), "0 0 0 0 0 999999");
        x.secondsAnd(0, 4, 18, 999999999, 0);
        due.answer("parts of the most", partsOf(x, 0), "46296296296296 7 6 40 999 999999999");
        x.secondsAnd(0, -4, 18, 1, 0);
        due.answer("parts of the least and a nano", partsOf(x, 0), "-46296296296296 -7 -6 -40 0 1");
    }

    /** Rising SPANS, of which 2 and 3 are ALIKE. */
    private static Spanledger rising() {
        Spanledger x = new Spanledger();
        x.seconds(0, -4, 18);
        x.nanos(1, -1, 0);
        x.nanos(4, 2, 0);
        x.secondsAnd(5, 4, 18, 1, 0);
        return x;
    }

    private static void orders() {
        Spanledger x = rising();
        int[] rank = {0, 1, 2, 2, 3, 4};
        for (int i = 0; i < 6; i++) {
            for (int j = 0; j < 6; j++) {
                String both = "(" + i + ", " + j + ")";
                due.answer("compare" + both, x.compare(i, j), Integer.signum(rank[i] - rank[j]));
                due.answer("isLike" + both, x.isLike(i, j), rank[i] == rank[j]);
            }
        }
        x.secondsAnd(0, -3, 0, 7, 0);
        x.secondsAnd(1, -3, 0, 8, 0);
        due.answer("compare by the rest alone", x.compare(0, 1), -1);
        due.answer("and the other way", x.compare(1, 0), 1);
        due.answer("isLike by the rest alone", x.isLike(0, 1), false);
        x.nanos(2, 5, 9);
        x.seconds(3, 5, 0);
        due.answer("made in other ways, the same number", x.compare(2, 3), 0);
        due.answer("made in other ways, ALIKE", x.isLike(2, 3), true);
        x.seconds(4, 1, 0);
        x.nanos(5, 999999999, 0);
        due.answer("seconds go ahead of rests", x.compare(4, 5), 1);
    }

    private static void greater() {
        Spanledger x = rising();
        for (int i = 0; i < 6; i++) {
            for (int j = 0; j < 6; j++) {
                boolean alike = i == j || i + j == 5 && i >= 2 && i <= 3;
                due.answer("greater(" + i + ", " + j + ")", x.greater(i, j), alike ? i : Math.max(i, j));
            }
        }
    }

    private static void twins() {
        Spanledger x = new Spanledger();
        due.answer("twins of six ZEROS", x.twins(), 15);
        due.answer("twins of rising ones", rising().twins(), 1);
        x.nanos(0, 1, 0);
        due.answer("twins of five", x.twins(), 10);
        x.nanos(5, 1, 0);
        due.answer("twins of four and of two", x.twins(), 7);
        x.nanos(3, 1, 0);
        due.answer("twins of three and of three", x.twins(), 6);
        x.seconds(4, 1, 0);
        x.secondsAnd(1, 1, 0, 1, 0);
        due.answer("twins of three", x.twins(), 3);
    }

    private static void wrongSpans() {
        for (int at : new int[] {-1, 6, Integer.MIN_VALUE, Integer.MAX_VALUE}) {
            due.thrown("secondsOf", INDEX, y -> y.secondsOf(at));
            due.thrown("restOf", INDEX, y -> y.restOf(at));
            due.thrown("text", INDEX, y -> y.text(at));
            due.thrown("isZero", INDEX, y -> y.isZero(at));
            due.thrown("isNegative", INDEX, y -> y.isNegative(at));
            due.thrown("total", INDEX, y -> y.total(at, 0));
            due.thrown("total, what wrong too", INDEX, y -> y.total(at, 6));
            due.thrown("part", INDEX, y -> y.part(at, 0));
            due.thrown("part, what wrong too", INDEX, y -> y.part(at, -1));
            due.thrown("compare, first", INDEX, y -> y.compare(at, 0));
            due.thrown("compare, second", INDEX, y -> y.compare(0, at));
            due.thrown("isLike, first", INDEX, y -> y.isLike(at, 0));
            due.thrown("isLike, second", INDEX, y -> y.isLike(0, at));
            due.thrown("greater, first", INDEX, y -> y.greater(at, 0));
            due.thrown("greater, second", INDEX, y -> y.greater(0, at));
            due.thrown("isLike, both", INDEX, y -> y.isLike(at, at));
        }
    }

    private static void wrongKinds() {
        for (int what : new int[] {-1, 6, Integer.MIN_VALUE, Integer.MAX_VALUE}) {
            due.thrown("total " + what, ARGUMENT, y -> y.total(0, what));
            due.thrown("part " + what, ARGUMENT, y -> y.part(0, what));
        }
    }
}
