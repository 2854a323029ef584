/** Promises 1, 2 and 9 to 12: a new object, and spans that are made, but for those of one AMOUNT. */
public final class MakingTest {
    private static final Class<IndexOutOfBoundsException> INDEX = IndexOutOfBoundsException.class;
    private static final Class<IllegalArgumentException> ARGUMENT = IllegalArgumentException.class;

    private static final Due due = new Due("MakingTest");

    public static void main(String[] args) {
        newObject();
        zero();
        secondsAnd();
        secondsAndAtTheBounds();
        secondsAndThrows();
        between();
        copy();
        swap();
        due.close();
    }

    private static void newObject() {
        Spanledger x = new Spanledger();
        due.answer("a new object", Due.stateOf(x),
                "spans 0.0 0.0 0.0 0.0 0.0 0.0 moments 0 0 0 0 entries knocks 0 refused 0");
        for (int from = 0; from < 4; from++) {
            for (int to = 0; to < 4; to++) {
                due.answer("between two new moments", x.between(0, from, to), 0);
            }
        }
        for (int at = 0; at < 6; at++) {
            due.answer("a new span is zero", x.isZero(at), true);
        }
        due.answer("new: twins", x.twins(), 15);
        due.answer("new: house 0", x.house(0), 0);
        due.answer("new: house 3", x.house(3), 6);
        due.answer("new: isSound", x.isSound(), true);
        Spanledger other = Due.furnished();
        due.answer("objects lie apart", other.text(0), "12.345000000");
        due.answer("objects lie apart", x.text(0), "0.0");
    }

    private static void zero() {
        Spanledger x = Due.furnished();
        due.answer("zero of a span above", x.zero(0), 1);
        due.answer("text then", x.text(0), "0.0");
        due.answer("zero of a span below", x.zero(2), -1);
        due.answer("text then", x.text(2), "0.0");
        due.answer("zero of a zero span", x.zero(5), 0);
        x.nanos(5, 1, 0);
        due.answer("zero of one nano", x.zero(5), 1);
        due.answer("the others stay", x.text(1), "-7001.991100000");
        due.answer("the others stay", x.text(4), "12.345000000");
        due.thrown("zero(6)", INDEX, y -> y.zero(6));
        due.thrown("zero(-1)", INDEX, y -> y.zero(-1));
    }

    private static void secondsAnd() {
        Spanledger x = new Spanledger();
        due.answer("secondsAnd above", x.secondsAnd(0, 3, 2, 25, 7), 1);
        due.answer("text", x.text(0), "300.250000000");
        due.answer("secondsAnd below", x.secondsAnd(0, -3, 0, 5, 8), -1);
        due.answer("text", x.text(0), "-3.500000000");
        due.answer("secondsAnd with nanos below", x.secondsAnd(0, 3, 0, -1, 0), 1);
        due.answer("text", x.text(0), "2.999999999");
        due.answer("secondsAnd zero", x.secondsAnd(0, 9, 9, -9, 18), 0);
        due.answer("text", x.text(0), "0.0");
        due.answer("secondsAnd of no seconds", x.secondsAnd(5, 0, 18, -25, 8), -1);
        due.answer("text", x.text(5), "-3.500000000");
        due.answer("secondsAnd with carrying nanos", x.secondsAnd(5, 1, 0, 1, 9), 1);
        due.answer("text", x.text(5), "2.0");
    }

    private static void secondsAndAtTheBounds() {
        Spanledger x = new Spanledger();
        due.answer("the most seconds and almost one", x.secondsAnd(0, 4, 18, 999999999, 0), 1);
        due.answer("text", x.text(0), "4000000000000000000.999999999");
        due.answer("seconds and nanos that are seconds", x.secondsAnd(0, 2000000002, 9, -2, 18), 1);
        due.answer("text", x.text(0), "2000000000000000000.0");
        due.answer("the most seconds less a nano", x.secondsAnd(1, 4, 18, -1, 0), 1);
        due.answer("text", x.text(1), "3999999999999999999.999999999");
        due.answer("the least", x.secondsAnd(2, -4, 18, 1, 0), -1);
        due.answer("text", x.text(2), "-4000000000000000000.1");
        due.refused("a whole second beyond", y -> { }, y -> y.secondsAnd(1, 4, 18, 1, 9));
        due.refused("a nano below", y -> { }, y -> y.secondsAnd(1, -4, 18, -1, 0));
        due.refused("nanos do not bring it back", y -> { }, y -> y.secondsAnd(1, 400000001, 10, -9, 18));
        due.refused("nor below", y -> { }, y -> y.secondsAnd(1, -400000001, 10, 9, 18));
        due.refused("both the greatest", y -> { }, y -> y.secondsAnd(1, 922337203, 10, 922337203, 10));
        due.refused("both the least", y -> { }, y -> y.secondsAnd(1, -922337203, 10, -922337203, 10));
    }

    private static void secondsAndThrows() {
        due.thrown("secondsAnd at 6", INDEX, y -> y.secondsAnd(6, 1, 0, 1, 0));
        due.thrown("secondsAnd at -1, all else wrong too", INDEX, y -> y.secondsAnd(-1, 10, 18, 10, 19));
        due.thrown("secondsAnd k -1", ARGUMENT, y -> y.secondsAnd(0, 1, -1, 1, 0));
        due.thrown("secondsAnd k 19", ARGUMENT, y -> y.secondsAnd(0, 0, 19, 1, 0));
        due.thrown("secondsAnd j -1", ARGUMENT, y -> y.secondsAnd(0, 1, 0, 1, -1));
        due.thrown("secondsAnd j 19", ARGUMENT, y -> y.secondsAnd(0, 1, 0, 0, 19));
        due.thrown("secondsAnd a too great", ARGUMENT, y -> y.secondsAnd(0, 10, 18, 0, 0));
        due.thrown("secondsAnd b too great", ARGUMENT, y -> y.secondsAnd(0, 0, 0, 10, 18));
        due.thrown("secondsAnd b too great and does not fit", ARGUMENT, y -> y.secondsAnd(0, 9, 18, -10, 18));
    }

    private static void between() {
        Spanledger x = Due.furnished();
        due.answer("between 0, 1", x.between(0, 0, 1), 1);
        due.answer("text", x.text(0), "82676.999999995");
        due.answer("between 1, 0", x.between(0, 1, 0), -1);
        due.answer("text", x.text(0), "-82677.5");
        due.answer("between 2, 2", x.between(0, 2, 2), 0);
        due.answer("text", x.text(0), "0.0");
        due.answer("between 3, 1: the whole day but a nano", x.between(5, 3, 1), 1);
        due.answer("text", x.text(5), "86399.999999999");
        due.answer("between 1, 3", x.between(5, 1, 3), -1);
        due.answer("text", x.text(5), "-86400.1");
        due.answer("the others stay", x.text(1), "-7001.991100000");
        due.answer("the moments stay", x.secondOfDay(1), 86399);
        due.thrown("between at 6", INDEX, y -> y.between(6, 0, 1));
        due.thrown("between at -1", INDEX, y -> y.between(-1, 0, 1));
        due.thrown("between from 4", INDEX, y -> y.between(0, 4, 1));
        due.thrown("between from -1", INDEX, y -> y.between(0, -1, 1));
        due.thrown("between to 4", INDEX, y -> y.between(0, 0, 4));
        due.thrown("between to -1", INDEX, y -> y.between(0, 0, -1));
    }

    private static void copy() {
        Spanledger x = Due.furnished();
        due.answer("copy(5, 1)", x.copy(5, 1), -1);
        due.answer("text", x.text(5), "-7001.991100000");
        due.answer("what is copied stays", x.text(1), "-7001.991100000");
        due.answer("copy(5, 0)", x.copy(5, 0), 1);
        due.answer("text", x.text(5), "12.345000000");
        due.answer("copy(0, 0)", x.copy(0, 0), 1);
        due.answer("text", x.text(0), "12.345000000");
        x.plusSeconds(5, 1, 0);
        due.answer("the copy is its own", x.text(0), "12.345000000");
        x.zero(3);
        due.answer("copy of zero", x.copy(0, 3), 0);
        due.answer("text", x.text(0), "0.0");
        due.thrown("copy at 6", INDEX, y -> y.copy(6, 0));
        due.thrown("copy at -1", INDEX, y -> y.copy(-1, 0));
        due.thrown("copy from 6", INDEX, y -> y.copy(0, 6));
        due.thrown("copy from -1", INDEX, y -> y.copy(0, -1));
    }

    private static void swap() {
        Spanledger x = Due.furnished();
        due.answer("swap(0, 1)", x.swap(0, 1), 1);
        due.answer("text 0", x.text(0), "-7001.991100000");
        due.answer("text 1", x.text(1), "12.345000000");
        due.answer("swap(0, 2)", x.swap(0, 2), 2);
        due.answer("text 0", x.text(0), "-1.999999999");
        due.answer("text 2", x.text(2), "-7001.991100000");
        due.answer("swap(1, 5)", x.swap(1, 5), 0);
        due.answer("text 1", x.text(1), "0.0");
        due.answer("text 5", x.text(5), "12.345000000");
        due.answer("swap(2, 2) below", x.swap(2, 2), 2);
        due.answer("text 2", x.text(2), "-7001.991100000");
        due.answer("swap(5, 5) above", x.swap(5, 5), 0);
        due.answer("swap(1, 1) zero", x.swap(1, 1), 0);
        x.plusSeconds(5, 1, 0);
        due.answer("both are still two", x.text(1), "0.0");
        due.thrown("swap at 6", INDEX, y -> y.swap(6, 0));
        due.thrown("swap at -1", INDEX, y -> y.swap(-1, 0));
        due.thrown("swap other 6", INDEX, y -> y.swap(0, 6));
        due.thrown("swap other -1", INDEX, y -> y.swap(0, -1));
    }
}
