/** Promises 25 to 30: spans put together, taken from each other and turned round; moments. */
public final class TurningTest {
    private static final Class<IndexOutOfBoundsException> INDEX = IndexOutOfBoundsException.class;
    private static final Class<IllegalArgumentException> ARGUMENT = IllegalArgumentException.class;

    private static final Due due = new Due("TurningTest");

    public static void main(String[] args) {
        plus();
        minus();
        negate();
        abs();
        moment();
        momentThrows();
        due.close();
    }

    private static void most(Spanledger x, int at) {
        x.secondsAnd(at, 4, 18, 999999999, 0);
    }

    private static void least(Spanledger x, int at) {
        x.seconds(at, -4, 18);
    }

    private static void plus() {
        Spanledger x = Due.furnished();
        due.answer("plus(0, 1)", x.plus(0, 1) + " " + x.text(0), "-1 -6988.336100000");
        due.answer("the other one stays", x.text(1), "-7001.991100000");
        due.answer("plus itself", x.plus(0, 0) + " " + x.text(0), "-1 -13976.672200000");
        due.answer("plus ZERO", x.plus(0, 5) + " " + x.text(0), "-1 -13976.672200000");
        x.nanos(5, 1, 0);
        due.answer("a nano below and one above", x.plus(2, 5) + " " + x.text(2), "0 0.0");
        x.seconds(0, 2, 18);
        due.answer("up to the most", x.plus(0, 0) + " " + x.text(0), "1 4000000000000000000.0");
        x.nanos(1, 999999999, 0);
        due.answer("up to the very most", x.plus(0, 1) + " " + x.text(0), "1 4000000000000000000.999999999");
        least(x, 1);
        due.answer("the most and the least", x.plus(0, 1) + " " + x.text(0), "1 0.999999999");
        due.refused("most plus most", y -> most(y, 0), y -> y.plus(0, 0));
        due.refused("least plus least", y -> least(y, 0), y -> y.plus(0, 0));
        due.refused("most plus a nano", y -> { most(y, 0); y.nanos(1, 1, 0); }, y -> y.plus(0, 1));
        due.refused("least less a nano", y -> least(y, 0), y -> y.plus(0, 2));
        due.thrown("plus at 6", INDEX, y -> y.plus(6, 0));
        due.thrown("plus at -1", INDEX, y -> y.plus(-1, 0));
        due.thrown("plus other 6", INDEX, y -> y.plus(0, 6));
        due.thrown("plus other -1", INDEX, y -> y.plus(0, -1));
    }

    private static void minus() {
        Spanledger x = Due.furnished();
        due.answer("minus(0, 1)", x.minus(0, 1) + " " + x.text(0), "1 7012.353900000");
        due.answer("the other one stays", x.text(1), "-7001.991100000");
        due.answer("minus itself", x.minus(0, 0) + " " + x.text(0), "0 0.0");
        due.answer("ZERO minus a nano below", x.minus(0, 2) + " " + x.text(0), "1 0.1");
        due.answer("minus ZERO", x.minus(2, 5) + " " + x.text(2), "-1 -1.999999999");
        most(x, 0);
        most(x, 1);
        due.answer("the most minus the most", x.minus(0, 1) + " " + x.text(0), "0 0.0");
        least(x, 1);
        due.answer("ZERO minus the least", x.minus(0, 1) + " " + x.text(0), "1 4000000000000000000.0");
        due.answer("the least minus itself", x.minus(1, 1) + " " + x.text(1), "0 0.0");
        due.answer("ZERO minus the most", x.minus(1, 0) + " " + x.text(1), "-1 -4000000000000000000.0");
        due.refused("ZERO minus the very most", y -> most(y, 0), y -> y.minus(5, 0));
        due.refused("most minus least", y -> { most(y, 0); least(y, 1); }, y -> y.minus(0, 1));
        due.refused("least minus most", y -> { most(y, 0); least(y, 1); }, y -> y.minus(1, 0));
        due.refused("most minus a nano below", y -> most(y, 0), y -> y.minus(0, 2));
        due.refused("least minus a nano", y -> { least(y, 0); y.nanos(1, 1, 0); }, y -> y.minus(0, 1));
        due.thrown("minus at 6", INDEX, y -> y.minus(6, 0));
        due.thrown("minus at -1", INDEX, y -> y.minus(-1, 0));
        due.thrown("minus other 6", INDEX, y -> y.minus(0, 6));
        due.thrown("minus other -1", INDEX, y -> y.minus(0, -1));
    }

    private static void negate() {
        Spanledger x = Due.furnished();
        due.answer("negate(0)", x.negate(0) + " " + x.text(0), "-1 -13.655000000");
        due.answer("and back", x.negate(0) + " " + x.text(0), "1 12.345000000");
        due.answer("negate(2)", x.negate(2) + " " + x.text(2), "1 0.1");
        due.answer("and back", x.negate(2) + " " + x.text(2), "-1 -1.999999999");
        due.answer("negate ZERO", x.negate(5) + " " + x.text(5), "0 0.0");
        due.answer("negate whole seconds", x.negate(3) + " " + x.text(3), "-1 -432000000000000.0");
        x.seconds(3, 4, 18);
        due.answer("negate the most whole seconds", x.negate(3) + " " + x.text(3), "-1 -4000000000000000000.0");
        due.answer("negate the least", x.negate(3) + " " + x.text(3), "1 4000000000000000000.0");
        due.refused("negate the most", y -> most(y, 0), y -> y.negate(0));
        due.refused("negate a nano beyond", y -> y.secondsAnd(0, 4, 18, 1, 0), y -> y.negate(0));
        due.thrown("negate(6)", INDEX, y -> y.negate(6));
        due.thrown("negate(-1)", INDEX, y -> y.negate(-1));
    }

    private static void abs() {
        Spanledger x = Due.furnished();
        due.answer("abs above", x.abs(0) + " " + x.text(0), "1 12.345000000");
        due.answer("abs below", x.abs(1) + " " + x.text(1), "1 7000.8900000");
        due.answer("abs of a nano below", x.abs(2) + " " + x.text(2), "1 0.1");
        due.answer("abs of ZERO", x.abs(5) + " " + x.text(5), "0 0.0");
        least(x, 0);
        due.answer("abs of the least", x.abs(0) + " " + x.text(0), "1 4000000000000000000.0");
        most(x, 0);
        due.answer("abs of the most", x.abs(0) + " " + x.text(0), "1 4000000000000000000.999999999");
        due.thrown("abs(6)", INDEX, y -> y.abs(6));
        due.thrown("abs(-1)", INDEX, y -> y.abs(-1));
    }

    private static void moment() {
        Spanledger x = new Spanledger();
        due.answer("moment at one nano", x.moment(3, 0, 0, 0, 1), 0);
        due.answer("moment 3 differs by it", x.between(0, 0, 3) + " " + x.text(0), "1 0.1");
        due.answer("moment with every part", x.moment(0, 1, 2, 3, 999999999), 3723);
        due.answer("secondOfDay rounds down", x.secondOfDay(0), 3723);
        due.answer("moment of an hour", x.moment(1, 23, 0, 0, 0), 82800);
        due.answer("moment of a minute", x.moment(1, 0, 59, 0, 0), 3540);
        due.answer("moment of a second", x.moment(1, 0, 0, 59, 0), 59);
        due.answer("the day's end", x.moment(2, 23, 59, 59, 999999999), 86399);
        due.answer("secondOfDay 0", x.secondOfDay(0), 3723);
        due.answer("secondOfDay 1", x.secondOfDay(1), 59);
        due.answer("secondOfDay 2", x.secondOfDay(2), 86399);
        due.answer("secondOfDay 3", x.secondOfDay(3), 0);
        due.answer("the nanos are kept", x.between(0, 0, 2) + " " + x.text(0), "1 82676.0");
        due.answer("a moment set anew", x.moment(0, 0, 0, 0, 0) + " " + x.secondOfDay(0), "0 0");
        due.answer("its nanos too", x.between(0, 0, 3) + " " + x.text(0), "1 0.1");
    }

    private static void momentThrows() {
        due.thrown("moment 4", INDEX, y -> y.moment(4, 0, 0, 0, 0));
        due.thrown("moment -1", INDEX, y -> y.moment(-1, 0, 0, 0, 0));
        due.thrown("moment 4, all else wrong too", INDEX, y -> y.moment(4, 24, 60, 60, 1000000000));
        due.thrown("moment -1, nano wrong", INDEX, y -> y.moment(-1, 0, 0, 0, -1));
        due.thrown("hour 24", ARGUMENT, y -> y.moment(0, 24, 0, 0, 0));
        due.thrown("hour -1", ARGUMENT, y -> y.moment(0, -1, 0, 0, 0));
        due.thrown("minute 60", ARGUMENT, y -> y.moment(0, 0, 60, 0, 0));
        due.thrown("minute -1", ARGUMENT, y -> y.moment(0, 0, -1, 0, 0));
        due.thrown("second 60", ARGUMENT, y -> y.moment(0, 0, 0, 60, 0));
        due.thrown("second -1", ARGUMENT, y -> y.moment(0, 0, 0, -1, 0));
        due.thrown("nano 1000000000", ARGUMENT, y -> y.moment(0, 0, 0, 0, 1000000000));
        due.thrown("nano -1", ARGUMENT, y -> y.moment(0, 0, 0, 0, -1));
        due.thrown("the greatest numbers", ARGUMENT,
                y -> y.moment(0, Integer.MAX_VALUE, Integer.MAX_VALUE, Integer.MAX_VALUE, Integer.MAX_VALUE));
        due.thrown("secondOfDay(4)", INDEX, y -> y.secondOfDay(4));
        due.thrown("secondOfDay(-1)", INDEX, y -> y.secondOfDay(-1));
    }
}
