/** Promises 52 to 55: knock, house, isSound, digest. */
public final class WholeTest {
    private static final Class<IllegalArgumentException> ARGUMENT = IllegalArgumentException.class;

    private static final Due due = new Due("WholeTest");

    public static void main(String[] args) {
        knock();
        house();
        isSound();
        digest();
        due.close();
    }

    private static void knock() {
        Spanledger x = new Spanledger();
        Spanledger other = new Spanledger();
        for (int i = 1; i <= 500; i++) {
            due.answer("knock", x.knock(), i);
        }
        due.answer("house 2", x.house(2), 500);
        due.answer("another object", other.house(2), 0);
    }

    private static String houseOf(Spanledger x) {
        return x.house(0) + " " + x.house(1) + " " + x.house(2) + " " + x.house(3) + " " + x.house(4);
    }

    private static void house() {
        due.answer("house of a new object", houseOf(new Spanledger()), "0 0 0 6 0");
        Spanledger x = Due.furnished();
        due.answer("house of a furnished object", houseOf(x), "3 1 2 1 2");
        x.negate(0);
        x.zero(3);
        x.take();
        x.knock();
        x.days(5, 9, 18);
        due.answer("house then", houseOf(x), "2 2 3 2 3");
        x.clear();
        due.answer("house of an empty ledger", houseOf(x), "0 2 3 2 3");
        for (int what : new int[] {-1, 5, Integer.MIN_VALUE, Integer.MAX_VALUE}) {
            due.thrown("house " + what, ARGUMENT, y -> y.house(what));
        }
    }

    private static void isSound() {
        due.answer("a new object is sound", new Spanledger().isSound(), true);
        Spanledger x = Due.furnished();
        due.answer("a furnished object is sound", x.isSound(), true);
        String was = Due.stateOf(x);
        x.isSound();
        due.answer("isSound changes nothing", Due.stateOf(x), was);
        x.secondsAnd(0, 4, 18, 999999999, 0);
        x.seconds(1, -4, 18);
        x.secondsAnd(3, -4, 18, 1, 0);
        due.answer("sound at the bounds", x.isSound(), true);
        x.clear();
        x.post(0);
        x.post(0);
        due.answer("sound if a sum does not fit", x.isSound(), true);
        x.take();
        x.post(1);
        x.post(2);
        due.answer("sound if all sums fit", x.isSound(), true);
    }

    private static void digest() {
        due.answer("digest of a new object", new Spanledger().digest(), digestByTheFace(new Spanledger()));
        Spanledger x = Due.furnished();
        due.answer("digest of a furnished object", x.digest(), digestByTheFace(Due.furnished()));
        due.answer("digest changes nothing", x.digest(), digestByTheFace(Due.furnished()));
        x.secondsAnd(3, 4, 18, 999999999, 0);
        x.nanos(4, -922337203, 10);
        x.post(3);
        x.post(4);
        due.answer("digest with totals too great", x.digest(), digestByTheFace(x));
    }

    private static long digestByTheFace(Spanledger x) {
        long d = 7790;
        for (int what = 0; what <= 4; what++) {
            d = d * 31 + x.house(what);
        }
        for (int which = 0; which < 4; which++) {
            d = d * 31 + x.secondOfDay(which);
        }
        for (int at = 0; at < 6; at++) {
            d = d * 31 + Long.parseLong(x.secondsOf(at));
            d = d * 31 + x.restOf(at);
            for (int what = 0; what <= 5; what++) {
                d = d * 31 + x.total(at, what).length();
            }
            for (int what = 0; what <= 5; what++) {
                d = d * 31 + x.part(at, what).length();
            }
        }
        for (int at = 0; at < 6; at++) {
            for (int other = 0; other < 6; other++) {
                d = d * 31 + x.compare(at, other);
            }
        }
        for (int entry = 0; entry < x.house(0); entry++) {
            d = d * 31 + x.entry(entry).length();
        }
        return d * 31 + (x.isSound() ? 1 : 0);
    }
}
