import java.math.BigInteger;
import java.util.ArrayList;
import java.util.Arrays;
import java.util.List;

/**
 * The document's words once more, over whole numbers without bound: plain and slow, to hold the class against.
 * Every method bears the name of the one in the class that it answers for.
 */
final class Model {
    private static final BigInteger SECOND = BigInteger.valueOf(1_000_000_000L);
    private static final BigInteger MILLI = BigInteger.valueOf(1_000_000L);
    private static final BigInteger MINUTE = SECOND.multiply(BigInteger.valueOf(60));
    private static final BigInteger HOUR = SECOND.multiply(BigInteger.valueOf(3_600));
    private static final BigInteger DAY = SECOND.multiply(BigInteger.valueOf(86_400));
    private static final BigInteger MOST_SECONDS = new BigInteger("4000000000000000000");
    private static final BigInteger MOST_AMOUNT = new BigInteger("9223372036854775807");
    private static final BigInteger MOST_TOTAL = new BigInteger("9223372036854775807");
    private static final BigInteger LEAST_TOTAL = new BigInteger("-9223372036854775808");

    private final BigInteger[] spans = new BigInteger[6];
    private final BigInteger[] moments = new BigInteger[4];
    private final List<BigInteger> ledger = new ArrayList<>();
    private int refusals;
    private int knocks;

    Model() {
        Arrays.fill(spans, BigInteger.ZERO);
        Arrays.fill(moments, BigInteger.ZERO);
    }

    private void span(int at) {
        if (at < 0 || at >= 6) {
            throw new IndexOutOfBoundsException();
        }
    }

    private void theMoment(int which) {
        if (which < 0 || which >= 4) {
            throw new IndexOutOfBoundsException();
        }
    }

    private void theEntry(int entry) {
        if (entry < 0 || entry >= ledger.size()) {
            throw new IndexOutOfBoundsException();
        }
    }

    private static BigInteger amount(int a, int k) {
        if (k < 0 || k > 18) {
            throw new IllegalArgumentException();
        }
        BigInteger amount = BigInteger.valueOf(a).multiply(BigInteger.TEN.pow(k));
        if (amount.abs().compareTo(MOST_AMOUNT) > 0) {
            throw new IllegalArgumentException();
        }
        return amount;
    }

    private static void what(int what, int last) {
        if (what < 0 || what > last) {
            throw new IllegalArgumentException();
        }
    }

    private static BigInteger seconds(BigInteger nanos) {
        return nanos.subtract(nanos.mod(SECOND)).divide(SECOND);
    }

    private static boolean fits(BigInteger nanos) {
        return seconds(nanos).abs().compareTo(MOST_SECONDS) <= 0;
    }

    private int become(int at, BigInteger nanos) {
        if (!fits(nanos)) {
            refusals++;
            return -9;
        }
        spans[at] = nanos;
        return nanos.signum();
    }

    private int made(int at, int a, int k, BigInteger unit) {
        span(at);
        return become(at, amount(a, k).multiply(unit));
    }

    private int longer(int at, int a, int k, BigInteger unit) {
        span(at);
        return become(at, spans[at].add(amount(a, k).multiply(unit)));
    }

    private int shorter(int at, int a, int k, BigInteger unit) {
        span(at);
        return become(at, spans[at].subtract(amount(a, k).multiply(unit)));
    }

    public int zero(int at) {
        span(at);
        int before = spans[at].signum();
        spans[at] = BigInteger.ZERO;
        return before;
    }

    public int days(int at, int a, int k) {
        return made(at, a, k, DAY);
    }

    public int hours(int at, int a, int k) {
        return made(at, a, k, HOUR);
    }

    public int minutes(int at, int a, int k) {
        return made(at, a, k, MINUTE);
    }

    public int seconds(int at, int a, int k) {
        return made(at, a, k, SECOND);
    }

    public int millis(int at, int a, int k) {
        return made(at, a, k, MILLI);
    }

    public int nanos(int at, int a, int k) {
        return made(at, a, k, BigInteger.ONE);
    }

    public int secondsAnd(int at, int a, int k, int b, int j) {
        span(at);
        return become(at, amount(a, k).multiply(SECOND).add(amount(b, j)));
    }

    public int between(int at, int from, int to) {
        span(at);
        theMoment(from);
        theMoment(to);
        return become(at, moments[to].subtract(moments[from]));
    }

    public int copy(int at, int from) {
        span(at);
        span(from);
        return become(at, spans[from]);
    }

    public int swap(int at, int other) {
        span(at);
        span(other);
        BigInteger first = spans[at];
        spans[at] = spans[other];
        spans[other] = first;
        return (spans[at].signum() < 0 ? 1 : 0) + (spans[other].signum() < 0 ? 1 : 0);
    }

    public int plusDays(int at, int a, int k) {
        return longer(at, a, k, DAY);
    }

    public int plusHours(int at, int a, int k) {
        return longer(at, a, k, HOUR);
    }

    public int plusMinutes(int at, int a, int k) {
        return longer(at, a, k, MINUTE);
    }

    public int plusSeconds(int at, int a, int k) {
        return longer(at, a, k, SECOND);
    }

    public int plusMillis(int at, int a, int k) {
        return longer(at, a, k, MILLI);
    }

    public int plusNanos(int at, int a, int k) {
        return longer(at, a, k, BigInteger.ONE);
    }

    public int minusDays(int at, int a, int k) {
        return shorter(at, a, k, DAY);
    }

    public int minusHours(int at, int a, int k) {
        return shorter(at, a, k, HOUR);
    }

    public int minusMinutes(int at, int a, int k) {
        return shorter(at, a, k, MINUTE);
    }

    public int minusSeconds(int at, int a, int k) {
        return shorter(at, a, k, SECOND);
    }

    public int minusMillis(int at, int a, int k) {
        return shorter(at, a, k, MILLI);
    }

    public int minusNanos(int at, int a, int k) {
        return shorter(at, a, k, BigInteger.ONE);
    }

    public int plus(int at, int other) {
        span(at);
        span(other);
        return become(at, spans[at].add(spans[other]));
    }

    public int minus(int at, int other) {
        span(at);
        span(other);
        return become(at, spans[at].subtract(spans[other]));
    }

    public int negate(int at) {
        span(at);
        return become(at, spans[at].negate());
    }

    public int abs(int at) {
        span(at);
        return become(at, spans[at].abs());
    }

    public int moment(int which, int hour, int minute, int second, int nano) {
        theMoment(which);
        what(hour, 23);
        what(minute, 59);
        what(second, 59);
        what(nano, 999_999_999);
        int ahead = (hour * 60 + minute) * 60 + second;
        moments[which] = BigInteger.valueOf(ahead).multiply(SECOND).add(BigInteger.valueOf(nano));
        return ahead;
    }

    public int secondOfDay(int which) {
        theMoment(which);
        return moments[which].divide(SECOND).intValueExact();
    }

    public String secondsOf(int at) {
        span(at);
        return seconds(spans[at]).toString();
    }

    public int restOf(int at) {
        span(at);
        return spans[at].mod(SECOND).intValueExact();
    }

    private static String told(BigInteger nanos) {
        return seconds(nanos) + "." + nanos.mod(SECOND);
    }

    public String text(int at) {
        span(at);
        return told(spans[at]);
    }

    public boolean isZero(int at) {
        span(at);
        return spans[at].signum() == 0;
    }

    public boolean isNegative(int at) {
        span(at);
        return spans[at].signum() < 0;
    }

    private static BigInteger totalOf(BigInteger nanos, int what) {
        return switch (what) {
            case 0 -> seconds(nanos).divide(BigInteger.valueOf(86_400));
            case 1 -> seconds(nanos).divide(BigInteger.valueOf(3_600));
            case 2 -> seconds(nanos).divide(BigInteger.valueOf(60));
            case 3 -> seconds(nanos);
            case 4 -> nanos.divide(MILLI);
            default -> nanos;
        };
    }

    public String total(int at, int what) {
        span(at);
        what(what, 5);
        BigInteger total = totalOf(spans[at], what);
        boolean isTooGreat = total.compareTo(LEAST_TOTAL) < 0 || total.compareTo(MOST_TOTAL) > 0;
        return isTooGreat && what >= 4 ? "!" : total.toString();
    }

    public String part(int at, int what) {
        span(at);
        what(what, 5);
        BigInteger rest = spans[at].mod(SECOND);
        return (switch (what) {
            case 0 -> totalOf(spans[at], 0);
            case 1 -> totalOf(spans[at], 1).remainder(BigInteger.valueOf(24));
            case 2 -> totalOf(spans[at], 2).remainder(BigInteger.valueOf(60));
            case 3 -> seconds(spans[at]).remainder(BigInteger.valueOf(60));
            case 4 -> rest.divide(MILLI);
            default -> rest;
        }).toString();
    }

    public int compare(int at, int other) {
        span(at);
        span(other);
        return spans[at].compareTo(spans[other]);
    }

    public boolean isLike(int at, int other) {
        return compare(at, other) == 0;
    }

    public int greater(int at, int other) {
        return compare(at, other) < 0 ? other : at;
    }

    public int twins() {
        int pairs = 0;
        for (int i = 0; i < 6; i++) {
            for (int j = 0; j < i; j++) {
                pairs += spans[i].equals(spans[j]) ? 1 : 0;
            }
        }
        return pairs;
    }

    public int post(int at) {
        span(at);
        if (ledger.size() == 12) {
            throw new IllegalStateException();
        }
        ledger.add(spans[at]);
        return ledger.size();
    }

    public int take() {
        if (ledger.isEmpty()) {
            throw new IllegalStateException();
        }
        ledger.remove(ledger.size() - 1);
        return ledger.size();
    }

    public int clear() {
        int before = ledger.size();
        ledger.clear();
        return before;
    }

    public int sort() {
        ledger.sort(null);
        return ledger.size();
    }

    public int fetch(int at, int entry) {
        span(at);
        theEntry(entry);
        return become(at, ledger.get(entry));
    }

    public int set(int entry, int at) {
        theEntry(entry);
        span(at);
        return ledger.set(entry, spans[at]).signum();
    }

    public String entry(int entry) {
        theEntry(entry);
        return told(ledger.get(entry));
    }

    public int place(int at) {
        span(at);
        return ledger.indexOf(spans[at]);
    }

    public int sum(int at) {
        span(at);
        BigInteger sum = BigInteger.ZERO;
        for (BigInteger each : ledger) {
            sum = sum.add(each);
            if (!fits(sum)) {
                refusals++;
                return -9;
            }
        }
        return become(at, sum);
    }

    public int steps() {
        int inOrder = 0;
        for (int i = 1; i < ledger.size(); i++) {
            inOrder += ledger.get(i - 1).compareTo(ledger.get(i)) <= 0 ? 1 : 0;
        }
        return inOrder;
    }

    public int knock() {
        return ++knocks;
    }

    public int house(int what) {
        what(what, 4);
        int zeros = 0;
        int negatives = 0;
        for (BigInteger each : spans) {
            zeros += each.signum() == 0 ? 1 : 0;
            negatives += each.signum() < 0 ? 1 : 0;
        }
        return new int[] {ledger.size(), refusals, knocks, zeros, negatives}[what];
    }

    /** Each clause of that promise is a law of whole numbers. */
    public boolean isSound() {
        return true;
    }

    public long digest() {
        long d = 7790;
        for (int what = 0; what <= 4; what++) {
            d = d * 31 + house(what);
        }
        for (int which = 0; which < 4; which++) {
            d = d * 31 + secondOfDay(which);
        }
        for (int at = 0; at < 6; at++) {
            d = d * 31 + seconds(spans[at]).longValueExact();
            d = d * 31 + restOf(at);
            for (int what = 0; what <= 5; what++) {
                d = d * 31 + total(at, what).length();
            }
            for (int what = 0; what <= 5; what++) {
                d = d * 31 + part(at, what).length();
            }
        }
        for (int at = 0; at < 6; at++) {
            for (int other = 0; other < 6; other++) {
                d = d * 31 + compare(at, other);
            }
        }
        for (int entry = 0; entry < ledger.size(); entry++) {
            d = d * 31 + entry(entry).length();
        }
        return d * 31 + 1;
    }
}
