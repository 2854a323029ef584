import java.math.BigInteger;
import java.util.function.Function;

/** Promises 52 to 55, and how many calls an object answers. */
final class WholeBounds extends Bounds {
    private static final String KNOCK = "Promise 52: knock";
    private static final String HOUSE = "Promise 53: house";
    private static final String IS_SOUND = "Promise 54: isSound";
    private static final String DIGEST = "Promise 55: digest";

    private static final int MOST_CALLS = 512;
    /** Reckoned from the document's words outside of Java, without bound, and wrapped around in the end. */
    private static final long NEW_DIGEST = -2875170912782479371L;

    WholeBounds(Due due, Sentences document) {
        super(due, document);
    }

    @Override
    void run() {
        lastCall();
        knock();
        house();
        houseThrows();
        isSound();
        digest();
        digestOfEachState();
    }

    private void lastCall() {
        says("What it is", "An object is used for at most 512 calls after it has been made; what later calls answer is "
                + "free.");
        due.answer("the last call tells REFUSED", beforeTheLast(x -> x.seconds(0, 9, 18)).seconds(0, 9, 18), -9);
        due.answer("how often it was told", beforeTheLast(x -> x.seconds(0, 9, 18)).house(1), MOST_CALLS - 1);
        due.answer("the last call knocks", beforeTheLast(Spanledger::knock).knock(), MOST_CALLS);
        due.answer("the last call lengthens", beforeTheLast(x -> x.plusDays(5, 1, 0)).plusDays(5, -511, 0), 0);
        due.answer("the last call tells a TEXT", beforeTheLast(x -> x.minusNanos(5, 1, 0)).text(5), "-1.999999489");
        due.answer("the last call throws", Due.outcomeOf(x -> x.text(6), beforeTheLast(Spanledger::sort)), INDEX);
    }

    /** An object of which one call more may be asked. */
    private static Spanledger beforeTheLast(Function<Spanledger, Object> act) {
        Spanledger x = new Spanledger();
        for (int i = 1; i < MOST_CALLS; i++) {
            act.apply(x);
        }
        return x;
    }

    private void knock() {
        says(KNOCK, "Knocks.");
        Spanledger x = Due.furnished();
        String was = Due.stateOf(x);
        x.knock();
        due.answer("all else stays", Due.stateOf(x), was.replace("knocks 2", "knocks 3"));
        says(KNOCK, "Returns how often one knocked, with this.");
        Spanledger knocked = new Spanledger();
        Spanledger other = new Spanledger();
        due.answer("before", knocked.house(2), 0);
        for (int i = 1; i < MOST_CALLS; i++) {
            due.answer("knock", knocked.knock(), i);
        }
        due.answer("another object is not knocked at", other.knock(), 1);
    }

    private void house() {
        says(HOUSE, "Returns that.");
        Spanledger x = new Spanledger();
        for (int i = 0; i < FULL; i++) {
            due.answer("how many ENTRIES", x.house(0), i);
            x.post(0);
        }
        due.answer("twelve ENTRIES", x.house(0), 12);
        Spanledger refused = new Spanledger();
        for (int i = 0; i < 255; i++) {
            due.answer("how often REFUSED was told", refused.house(1), i);
            refused.seconds(0, 9, 18);
        }
        Spanledger knocked = new Spanledger();
        for (int i = 0; i < 255; i++) {
            due.answer("how often one knocked", knocked.house(2), i);
            knocked.knock();
        }
        Spanledger signs = new Spanledger();
        due.answer("all ZERO, none NEGATIVE", signs.house(3) + " " + signs.house(4), "6 0");
        for (int at = 0; at < SPANS; at++) {
            signs.nanos(at, -1, 0);
            due.answer("a nano below", signs.house(3) + " " + signs.house(4), (5 - at) + " " + (at + 1));
        }
        for (int at = 0; at < SPANS; at++) {
            signs.nanos(at, 1, 0);
            due.answer("a nano above", signs.house(3) + " " + signs.house(4), "0 " + (5 - at));
        }
        Put.least(signs, 5);
        due.answer("the least", signs.house(3) + " " + signs.house(4), "0 1");
    }

    private void houseThrows() {
        says(HOUSE, "Throws `IllegalArgumentException` if what is not 0 to 4");
        numbersFromZero("house", 5, ARGUMENT, Spanledger::house);
    }

    private void isSound() {
        says(IS_SOUND, "Returns whether all of this is so: each SPAN is the one with its SECONDS and its REST, and the "
                + "one with its PARTS 0 to 3 and its REST; turned round twice it is as it was, and put together with "
                + "what it is turned round it is ZERO; of each two SPANS the one is the other one and what it is more "
                + "(shorter by the other one, then longer by it), they are ALIKE just if that is ZERO, and the one is "
                + "less just if that is NEGATIVE; BETWEEN each two MOMENTS by way of each third one is the same; and "
                + "the sum of all ENTRIES less all of them from the last one on is ZERO, if each of these sums FITS "
                + "(otherwise that part is so; all else is reckoned without FIT).");
        due.answer("a new object", new Spanledger().isSound(), true);
        Spanledger x = Due.furnished();
        due.answer("a furnished one", x.isSound(), true);
        Put.most(x, 0);
        Put.least(x, 1);
        Put.span(x, 3, -Put.MOST_SECONDS, 1);
        Put.span(x, 4, Put.MOST_SECONDS, 0);
        x.moment(3, 23, 59, 59, 999_999_999);
        due.answer("differences and turned ones that do not FIT", x.isSound(), true);
        for (int at = 0; at < 2; at++) {
            clearAndPost(x, at, FULL);
            due.answer("sums that do not FIT", x.isSound(), true);
            clearAndPost(x, at, 1);
            due.answer("a sum at the bound", x.isSound(), true);
        }
        clearAndPost(x, 0, 6);
        for (int entry = 1; entry < 6; entry += 2) {
            x.set(entry, 1);
        }
        due.answer("sums at both bounds, one behind the other", x.isSound(), true);
        String was = Due.stateOf(x);
        x.isSound();
        due.answer("nothing changes", Due.stateOf(x), was);
    }

    private void digest() {
        says(DIGEST, "Computes a checksum. A number d starts with 7790; then d becomes d * 31 + v, which wraps around "
                + "as a 64-bit integer, for each v in this order (of a text how many signs it has): house() of 0 to 4; "
                + "MOMENT by MOMENT secondOfDay(); SPAN by SPAN its SECONDS (the number itself), its REST, total() of "
                + "0 to 5, part() of 0 to 5; SPAN by SPAN, for each SPAN, compare(); ENTRY by ENTRY entry(); 1 if "
                + "isSound(), otherwise 0.");
        due.answer("of a new object", new Spanledger().digest(), NEW_DIGEST);
        Spanledger x = Due.furnished();
        due.answer("of a furnished one", x.digest(), reckoned(Due.furnished()));
        due.answer("once more", x.digest(), reckoned(Due.furnished()));
        Put.most(x, 0);
        Put.least(x, 1);
        Put.span(x, 3, 9_223_372_036L, 854_775_808);
        Put.span(x, 4, -9_223_372_036_854_776L, 191_000_001);
        clearAndPost(x, 0, FULL);
        x.set(11, 1);
        due.answer("at the bounds, with a full ledger", x.digest(), reckoned(x));
        clearAndPost(x, 0, 0);
        due.answer("with an empty ledger", x.digest(), reckoned(x));
    }

    /** Without bound while it is reckoned, and wrapped around in the end. */
    private static long reckoned(Spanledger x) {
        BigInteger d = BigInteger.valueOf(7790);
        for (int what = 0; what <= 4; what++) {
            d = with(d, x.house(what));
        }
        for (int which = 0; which < MOMENTS; which++) {
            d = with(d, x.secondOfDay(which));
        }
        for (int at = 0; at < SPANS; at++) {
            d = with(d, Long.parseLong(x.secondsOf(at)));
            d = with(d, x.restOf(at));
            for (int what = 0; what <= 5; what++) {
                d = with(d, x.total(at, what).length());
            }
            for (int what = 0; what <= 5; what++) {
                d = with(d, x.part(at, what).length());
            }
        }
        for (int at = 0; at < SPANS; at++) {
            for (int other = 0; other < SPANS; other++) {
                d = with(d, x.compare(at, other));
            }
        }
        for (int entry = 0; entry < x.house(0); entry++) {
            d = with(d, x.entry(entry).length());
        }
        return with(d, x.isSound() ? 1 : 0).longValue();
    }

    private static BigInteger with(BigInteger d, long v) {
        return d.multiply(BigInteger.valueOf(31)).add(BigInteger.valueOf(v));
    }

    private void digestOfEachState() {
        says(DIGEST, "Returns d.");
        long before = Due.furnished().digest();
        due.answer("a SPAN by a nano", after(x -> x.plusNanos(0, 1, 0)) != before, true);
        due.answer("a SPAN by a second", after(x -> x.plusSeconds(5, 1, 0)) != before, true);
        due.answer("a MOMENT by a second", after(x -> x.moment(3, 0, 0, 1, 0)) != before, true);
        due.answer("one knock", after(Spanledger::knock) != before, true);
        due.answer("one REFUSED", after(x -> x.seconds(0, 9, 18)) != before, true);
        due.answer("one ENTRY more", after(x -> x.post(0)) != before, true);
        due.answer("one ENTRY less", after(Spanledger::take) != before, true);
        due.answer("an ENTRY of another length", after(x -> x.set(0, 5)) != before, true);
        due.answer("a MOMENT by a nano alone is not told", after(x -> x.moment(3, 0, 0, 0, 1)) == before, true);
        due.answer("nor is an ENTRY of the same length", after(x -> x.set(2, 0)) == before, true);
    }

    private static long after(Function<Spanledger, Object> act) {
        Spanledger x = Due.furnished();
        act.apply(x);
        return x.digest();
    }
}
