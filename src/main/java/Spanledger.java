/** Spans of time beside each other, moments of a day, and a ledger in which some spans are posted. */
public final class Spanledger {
    private static final int SPANS = 6;
    private static final int MOMENTS = 4;
    private static final int MOST_ENTRIES = 12;
    private static final int NONE = -1;
    private static final int REFUSED = -9;

    // What an AMOUNT counts, a TOTAL tells and a PART is: numbered as the document numbers them.
    private static final int DAYS = 0;
    private static final int HOURS = 1;
    private static final int MINUTES = 2;
    private static final int SECONDS = 3;
    private static final int MILLIS = 4;
    private static final int NANOS = 5;

    private static final int LAST_HOUSE = 4;

    private static final long DAY = 86_400L;
    private static final long HOUR = 3_600L;
    private static final long MINUTE = 60L;
    private static final int NANOS_IN_SECOND = 1_000_000_000;
    private static final int NANOS_IN_MILLI = 1_000_000;
    private static final int MILLIS_IN_SECOND = 1_000;

    private static final long MOST_SECONDS = 4_000_000_000_000_000_000L;
    // Of two SPANS that FIT the one never lies so far from the other one.
    private static final long FAR_SECONDS = 9_000_000_000_000_000_000L;
    private static final int MOST_POWER = 18;
    private static final int MOST_DIGITS = 19;
    private static final long GREATEST_POWER = 1_000_000_000_000_000_000L;

    private final Span[] spans = new Span[SPANS];
    private final long[] moments = new long[MOMENTS];
    private final Span[] entries = new Span[MOST_ENTRIES];
    private final Span work = new Span();
    private final Span back = new Span();
    private int entryCount;
    private int refusals;
    private int knocks;

    public Spanledger() {
        for (int i = 0; i < spans.length; i++) {
            spans[i] = new Span();
        }
        for (int i = 0; i < entries.length; i++) {
            entries[i] = new Span();
        }
    }

    // ---- spans that are made

    public int zero(int at) throws IndexOutOfBoundsException {
        Span span = spanAt(at);
        int before = span.sign();
        span.become(0, 0);
        return before;
    }

    public int days(int at, int a, int k) throws IndexOutOfBoundsException, IllegalArgumentException {
        return makeOfAmount(spanAt(at), amountOf(a, k), DAYS);
    }

    public int hours(int at, int a, int k) throws IndexOutOfBoundsException, IllegalArgumentException {
        return makeOfAmount(spanAt(at), amountOf(a, k), HOURS);
    }

    public int minutes(int at, int a, int k) throws IndexOutOfBoundsException, IllegalArgumentException {
        return makeOfAmount(spanAt(at), amountOf(a, k), MINUTES);
    }

    public int seconds(int at, int a, int k) throws IndexOutOfBoundsException, IllegalArgumentException {
        return makeOfAmount(spanAt(at), amountOf(a, k), SECONDS);
    }

    public int millis(int at, int a, int k) throws IndexOutOfBoundsException, IllegalArgumentException {
        return makeOfAmount(spanAt(at), amountOf(a, k), MILLIS);
    }

    public int nanos(int at, int a, int k) throws IndexOutOfBoundsException, IllegalArgumentException {
        return makeOfAmount(spanAt(at), amountOf(a, k), NANOS);
    }

    public int secondsAnd(int at, int a, int k, int b, int j)
            throws IndexOutOfBoundsException, IllegalArgumentException {
        Span span = spanAt(at);
        long secondCount = amountOf(a, k);
        long nanoCount = amountOf(b, j);
        // The NANOS first, since they FIT by themselves whatever they are.
        work.become(wholeSeconds(nanoCount, NANOS), nanosBeside(nanoCount, NANOS));
        return becomeWorkOrRefuse(span, work.lengthenIfFits(secondCount, 0));
    }

    public int between(int at, int from, int to) throws IndexOutOfBoundsException {
        Span span = spanAt(at);
        long nanoCount = nanosFromTo(momentAt(from), momentAt(to));
        span.become(wholeSeconds(nanoCount, NANOS), nanosBeside(nanoCount, NANOS));
        return span.sign();
    }

    public int copy(int at, int from) throws IndexOutOfBoundsException {
        Span span = spanAt(at);
        span.becomeLike(spanAt(from));
        return span.sign();
    }

    public int swap(int at, int other) throws IndexOutOfBoundsException {
        Span one = spanAt(at);
        Span two = spanAt(other);
        work.becomeLike(one);
        one.becomeLike(two);
        two.becomeLike(work);
        return (one.sign() < 0 ? 1 : 0) + (two.sign() < 0 ? 1 : 0);
    }

    // ---- longer, shorter

    public int plusDays(int at, int a, int k) throws IndexOutOfBoundsException, IllegalArgumentException {
        return lengthenByAmount(spanAt(at), amountOf(a, k), DAYS);
    }

    public int plusHours(int at, int a, int k) throws IndexOutOfBoundsException, IllegalArgumentException {
        return lengthenByAmount(spanAt(at), amountOf(a, k), HOURS);
    }

    public int plusMinutes(int at, int a, int k) throws IndexOutOfBoundsException, IllegalArgumentException {
        return lengthenByAmount(spanAt(at), amountOf(a, k), MINUTES);
    }

    public int plusSeconds(int at, int a, int k) throws IndexOutOfBoundsException, IllegalArgumentException {
        return lengthenByAmount(spanAt(at), amountOf(a, k), SECONDS);
    }

    public int plusMillis(int at, int a, int k) throws IndexOutOfBoundsException, IllegalArgumentException {
        return lengthenByAmount(spanAt(at), amountOf(a, k), MILLIS);
    }

    public int plusNanos(int at, int a, int k) throws IndexOutOfBoundsException, IllegalArgumentException {
        return lengthenByAmount(spanAt(at), amountOf(a, k), NANOS);
    }

    public int minusDays(int at, int a, int k) throws IndexOutOfBoundsException, IllegalArgumentException {
        return lengthenByAmount(spanAt(at), -amountOf(a, k), DAYS);
    }

    public int minusHours(int at, int a, int k) throws IndexOutOfBoundsException, IllegalArgumentException {
        return lengthenByAmount(spanAt(at), -amountOf(a, k), HOURS);
    }

    public int minusMinutes(int at, int a, int k) throws IndexOutOfBoundsException, IllegalArgumentException {
        return lengthenByAmount(spanAt(at), -amountOf(a, k), MINUTES);
    }

    public int minusSeconds(int at, int a, int k) throws IndexOutOfBoundsException, IllegalArgumentException {
        return lengthenByAmount(spanAt(at), -amountOf(a, k), SECONDS);
    }

    public int minusMillis(int at, int a, int k) throws IndexOutOfBoundsException, IllegalArgumentException {
        return lengthenByAmount(spanAt(at), -amountOf(a, k), MILLIS);
    }

    public int minusNanos(int at, int a, int k) throws IndexOutOfBoundsException, IllegalArgumentException {
        return lengthenByAmount(spanAt(at), -amountOf(a, k), NANOS);
    }

    public int plus(int at, int other) throws IndexOutOfBoundsException {
        Span span = spanAt(at);
        Span more = spanAt(other);
        return signOrRefuse(span, span.lengthenIfFits(more.seconds, more.rest));
    }

    public int minus(int at, int other) throws IndexOutOfBoundsException {
        Span span = spanAt(at);
        Span less = spanAt(other);
        return signOrRefuse(span, span.lengthenIfFits(less.turnedSeconds(), less.turnedRest()));
    }

    public int negate(int at) throws IndexOutOfBoundsException {
        return turnRound(spanAt(at));
    }

    public int abs(int at) throws IndexOutOfBoundsException {
        Span span = spanAt(at);
        return span.sign() < 0 ? turnRound(span) : span.sign();
    }

    // ---- moments

    public int moment(int which, int hour, int minute, int second, int nano)
            throws IndexOutOfBoundsException, IllegalArgumentException {
        if (!isMoment(which)) {
            throw new IndexOutOfBoundsException("no such moment");
        }
        if (hour < 0 || hour > 23 || minute < 0 || minute > 59 || second < 0 || second > 59) {
            throw new IllegalArgumentException("no such second of a day");
        }
        if (nano < 0 || nano >= NANOS_IN_SECOND) {
            throw new IllegalArgumentException("no such nano of a second");
        }
        long ahead = hour * HOUR + minute * MINUTE + second;
        moments[which] = ahead * NANOS_IN_SECOND + nano;
        return (int) ahead;
    }

    public int secondOfDay(int which) throws IndexOutOfBoundsException {
        return (int) (momentAt(which) / NANOS_IN_SECOND);
    }

    // ---- what is asked of spans

    public String secondsOf(int at) throws IndexOutOfBoundsException {
        StringBuilder signs = new StringBuilder();
        appendNumber(signs, spanAt(at).seconds);
        return signs.toString();
    }

    public int restOf(int at) throws IndexOutOfBoundsException {
        return spanAt(at).rest;
    }

    public String text(int at) throws IndexOutOfBoundsException {
        return textOf(spanAt(at));
    }

    public boolean isZero(int at) throws IndexOutOfBoundsException {
        return spanAt(at).sign() == 0;
    }

    public boolean isNegative(int at) throws IndexOutOfBoundsException {
        return spanAt(at).sign() < 0;
    }

    public String total(int at, int what) throws IndexOutOfBoundsException, IllegalArgumentException {
        Span span = spanAt(at);
        if (what < DAYS || what > NANOS) {
            throw new IllegalArgumentException("no such total");
        }
        StringBuilder signs = new StringBuilder();
        appendTotal(signs, span, what);
        return signs.toString();
    }

    public String part(int at, int what) throws IndexOutOfBoundsException, IllegalArgumentException {
        Span span = spanAt(at);
        if (what < DAYS || what > NANOS) {
            throw new IllegalArgumentException("no such part");
        }
        StringBuilder signs = new StringBuilder();
        appendNumber(signs, partOf(span, what));
        return signs.toString();
    }

    public int compare(int at, int other) throws IndexOutOfBoundsException {
        return spanAt(at).orderTo(spanAt(other));
    }

    public boolean isLike(int at, int other) throws IndexOutOfBoundsException {
        return spanAt(at).orderTo(spanAt(other)) == 0;
    }

    public int greater(int at, int other) throws IndexOutOfBoundsException {
        return spanAt(at).orderTo(spanAt(other)) >= 0 ? at : other;
    }

    public int twins() {
        int pairs = 0;
        for (int i = 0; i < spans.length; i++) {
            for (int j = i + 1; j < spans.length; j++) {
                if (spans[i].orderTo(spans[j]) == 0) {
                    pairs++;
                }
            }
        }
        return pairs;
    }

    // ---- the ledger

    public int post(int at) throws IndexOutOfBoundsException, IllegalStateException {
        Span span = spanAt(at);
        if (entryCount >= entries.length) {
            throw new IllegalStateException("the ledger is full");
        }
        entries[entryCount].becomeLike(span);
        entryCount++;
        return entryCount;
    }

    public int take() throws IllegalStateException {
        if (entryCount < 1) {
            throw new IllegalStateException("the ledger is empty");
        }
        entryCount--;
        return entryCount;
    }

    public int clear() {
        int before = entryCount;
        entryCount = 0;
        return before;
    }

    public int sort() {
        for (int i = 1; i < entryCount; i++) {
            for (int j = i; j > 0 && entries[j - 1].orderTo(entries[j]) > 0; j--) {
                Span greaterOne = entries[j - 1];
                entries[j - 1] = entries[j];
                entries[j] = greaterOne;
            }
        }
        return entryCount;
    }

    public int fetch(int at, int entry) throws IndexOutOfBoundsException {
        Span span = spanAt(at);
        span.becomeLike(entryAt(entry));
        return span.sign();
    }

    public int set(int entry, int at) throws IndexOutOfBoundsException {
        Span posted = entryAt(entry);
        Span span = spanAt(at);
        int before = posted.sign();
        posted.becomeLike(span);
        return before;
    }

    public String entry(int entry) throws IndexOutOfBoundsException {
        return textOf(entryAt(entry));
    }

    public int place(int at) throws IndexOutOfBoundsException {
        Span span = spanAt(at);
        for (int i = 0; i < entryCount; i++) {
            if (entries[i].orderTo(span) == 0) {
                return i;
            }
        }
        return NONE;
    }

    public int sum(int at) throws IndexOutOfBoundsException {
        Span span = spanAt(at);
        return becomeWorkOrRefuse(span, addEntriesIfFit());
    }

    public int steps() {
        int inOrder = 0;
        for (int i = 1; i < entryCount; i++) {
            if (entries[i - 1].orderTo(entries[i]) <= 0) {
                inOrder++;
            }
        }
        return inOrder;
    }

    // ---- the whole

    public int knock() {
        knocks++;
        return knocks;
    }

    public int house(int what) throws IllegalArgumentException {
        switch (what) {
            case 0:
                return entryCount;
            case 1:
                return refusals;
            case 2:
                return knocks;
            case 3:
                return countOfSign(0);
            case LAST_HOUSE:
                return countOfSign(-1);
            default:
                throw new IllegalArgumentException("nothing of that number is told");
        }
    }

    public boolean isSound() {
        for (int i = 0; i < spans.length; i++) {
            if (!isWhatItIsToldAs(spans[i]) || !turnsRoundSoundly(spans[i])) {
                return false;
            }
            for (int j = 0; j < spans.length; j++) {
                if (!differSoundly(spans[i], spans[j])) {
                    return false;
                }
            }
        }
        return areMomentsSound() && isLedgerSound();
    }

    public long digest() {
        long d = 7790;
        for (int what = 0; what <= LAST_HOUSE; what++) {
            d = d * 31 + house(what);
        }
        for (int which = 0; which < moments.length; which++) {
            d = d * 31 + secondOfDay(which);
        }
        StringBuilder signs = new StringBuilder();
        for (int i = 0; i < spans.length; i++) {
            d = digestOfSpan(d, spans[i], signs);
        }
        for (int i = 0; i < spans.length; i++) {
            for (int j = 0; j < spans.length; j++) {
                d = d * 31 + spans[i].orderTo(spans[j]);
            }
        }
        for (int i = 0; i < entryCount; i++) {
            signs.setLength(0);
            appendText(signs, entries[i]);
            d = d * 31 + signs.length();
        }
        return d * 31 + (isSound() ? 1 : 0);
    }

    // ---- what was told: spans, moments, entries, amounts

    private Span spanAt(int at) {
        if (at < 0 || at >= spans.length) {
            throw new IndexOutOfBoundsException("no such span");
        }
        return spans[at];
    }

    private Span entryAt(int entry) {
        if (entry < 0 || entry >= entryCount) {
            throw new IndexOutOfBoundsException("no such entry");
        }
        return entries[entry];
    }

    private boolean isMoment(int which) {
        return which >= 0 && which < moments.length;
    }

    private long momentAt(int which) {
        if (!isMoment(which)) {
            throw new IndexOutOfBoundsException("no such moment");
        }
        return moments[which];
    }

    private static long amountOf(int a, int k) {
        if (k < 0 || k > MOST_POWER) {
            throw new IllegalArgumentException("k is not 0 to 18");
        }
        long amount = a;
        for (int i = 0; i < k; i++) {
            if (amount > Long.MAX_VALUE / 10 || amount < -(Long.MAX_VALUE / 10)) {
                throw new IllegalArgumentException("a and k are no amount");
            }
            amount *= 10;
        }
        return amount;
    }

    // The count of whole units is bounded, so that the seconds go into a long. What the bound cuts off
    // does not matter: no SPAN that FITS still FITS when it is longer by so much.
    private static long wholeSeconds(long count, int unit) {
        switch (unit) {
            case DAYS:
                return within(count, FAR_SECONDS / DAY) * DAY;
            case HOURS:
                return within(count, FAR_SECONDS / HOUR) * HOUR;
            case MINUTES:
                return within(count, FAR_SECONDS / MINUTE) * MINUTE;
            case MILLIS:
                return Math.floorDiv(count, (long) MILLIS_IN_SECOND);
            case NANOS:
                return Math.floorDiv(count, (long) NANOS_IN_SECOND);
            default:
                return count;
        }
    }

    private static int nanosBeside(long count, int unit) {
        switch (unit) {
            case MILLIS:
                return (int) Math.floorMod(count, (long) MILLIS_IN_SECOND) * NANOS_IN_MILLI;
            case NANOS:
                return (int) Math.floorMod(count, (long) NANOS_IN_SECOND);
            default:
                return 0;
        }
    }

    private static long within(long number, long bound) {
        return Math.max(-bound, Math.min(bound, number));
    }

    // ---- what spans become

    private int makeOfAmount(Span span, long count, int unit) {
        work.become(0, 0);
        return becomeWorkOrRefuse(span, work.lengthenIfFits(wholeSeconds(count, unit), nanosBeside(count, unit)));
    }

    private int lengthenByAmount(Span span, long count, int unit) {
        return signOrRefuse(span, span.lengthenIfFits(wholeSeconds(count, unit), nanosBeside(count, unit)));
    }

    private int turnRound(Span span) {
        work.become(0, 0);
        return becomeWorkOrRefuse(span, work.lengthenIfFits(span.turnedSeconds(), span.turnedRest()));
    }

    private boolean addEntriesIfFit() {
        work.become(0, 0);
        boolean fits = true;
        for (int i = 0; i < entryCount && fits; i++) {
            fits = work.lengthenIfFits(entries[i].seconds, entries[i].rest);
        }
        return fits;
    }

    private int becomeWorkOrRefuse(Span span, boolean fits) {
        if (fits) {
            span.becomeLike(work);
        }
        return signOrRefuse(span, fits);
    }

    private int signOrRefuse(Span span, boolean fits) {
        if (!fits) {
            refusals++;
            return REFUSED;
        }
        return span.sign();
    }

    // ---- what is told of spans

    private int countOfSign(int sign) {
        int count = 0;
        for (int i = 0; i < spans.length; i++) {
            if (spans[i].sign() == sign) {
                count++;
            }
        }
        return count;
    }

    private static boolean isTooGreat(Span span, int what) {
        long whole = span.secondsTowardsZero();
        int broken = span.nanosTowardsZero();
        switch (what) {
            case MILLIS:
                return isBeyond(whole, broken / NANOS_IN_MILLI,
                        Long.MAX_VALUE / MILLIS_IN_SECOND, Long.MAX_VALUE % MILLIS_IN_SECOND);
            case NANOS:
                return isBeyond(whole, broken, Long.MAX_VALUE / NANOS_IN_SECOND, Long.MAX_VALUE % NANOS_IN_SECOND);
            default:
                return false;
        }
    }

    // Below 0 a long reaches one further than above.
    private static boolean isBeyond(long whole, long broken, long mostWhole, long mostBroken) {
        if (whole == mostWhole) {
            return broken > mostBroken;
        }
        if (whole == -mostWhole) {
            return broken < -mostBroken - 1;
        }
        return whole > mostWhole || whole < -mostWhole;
    }

    private static long totalOf(Span span, int what) {
        switch (what) {
            case DAYS:
                return span.seconds / DAY;
            case HOURS:
                return span.seconds / HOUR;
            case MINUTES:
                return span.seconds / MINUTE;
            case MILLIS:
                return span.secondsTowardsZero() * MILLIS_IN_SECOND + span.nanosTowardsZero() / NANOS_IN_MILLI;
            case NANOS:
                return span.secondsTowardsZero() * NANOS_IN_SECOND + span.nanosTowardsZero();
            default:
                return span.seconds;
        }
    }

    private static long partOf(Span span, int what) {
        switch (what) {
            case DAYS:
                return totalOf(span, DAYS);
            case HOURS:
                return totalOf(span, HOURS) % 24;
            case MINUTES:
                return totalOf(span, MINUTES) % 60;
            case SECONDS:
                return span.seconds % 60;
            case MILLIS:
                return span.rest / NANOS_IN_MILLI;
            default:
                return span.rest;
        }
    }

    private static String textOf(Span span) {
        StringBuilder signs = new StringBuilder();
        appendText(signs, span);
        return signs.toString();
    }

    private static void appendText(StringBuilder signs, Span span) {
        appendNumber(signs, span.seconds);
        signs.append('.');
        signs.append(span.rest);
    }

    private static void appendTotal(StringBuilder signs, Span span, int what) {
        if (isTooGreat(span, what)) {
            signs.append('!');
        } else {
            appendNumber(signs, totalOf(span, what));
        }
    }

    // Digit by digit from the greatest on, since the least long has no counterpart above 0.
    private static void appendNumber(StringBuilder signs, long number) {
        if (number < 0) {
            signs.append('-');
        }
        boolean begun = false;
        long power = GREATEST_POWER;
        for (int left = MOST_DIGITS; left > 0 && power > 0; left--) {
            int digit = (int) Math.abs(number / power % 10);
            begun = begun || digit != 0 || left == 1;
            if (begun) {
                signs.append((char) ('0' + digit));
            }
            power /= 10;
        }
    }

    private static long digestOfSpan(long before, Span span, StringBuilder signs) {
        long d = before * 31 + span.seconds;
        d = d * 31 + span.rest;
        for (int what = DAYS; what <= NANOS; what++) {
            signs.setLength(0);
            appendTotal(signs, span, what);
            d = d * 31 + signs.length();
        }
        for (int what = DAYS; what <= NANOS; what++) {
            signs.setLength(0);
            appendNumber(signs, partOf(span, what));
            d = d * 31 + signs.length();
        }
        return d;
    }

    // ---- what is sound

    private boolean isWhatItIsToldAs(Span span) {
        work.become(0, 0);
        work.lengthen(span.seconds, span.rest);
        long ofParts = partOf(span, DAYS) * DAY + partOf(span, HOURS) * HOUR
                + partOf(span, MINUTES) * MINUTE + partOf(span, SECONDS);
        back.become(0, 0);
        back.lengthen(ofParts, span.rest);
        return work.orderTo(span) == 0 && back.orderTo(span) == 0;
    }

    private boolean turnsRoundSoundly(Span span) {
        work.become(span.turnedSeconds(), span.turnedRest());
        back.become(work.turnedSeconds(), work.turnedRest());
        work.lengthen(span.seconds, span.rest);
        return back.orderTo(span) == 0 && work.sign() == 0;
    }

    private boolean differSoundly(Span one, Span other) {
        work.becomeLike(one);
        work.lengthen(other.turnedSeconds(), other.turnedRest());
        back.becomeLike(work);
        back.lengthen(other.seconds, other.rest);
        int order = one.orderTo(other);
        return back.orderTo(one) == 0
                && (order == 0) == (work.sign() == 0)
                && (order < 0) == (work.sign() < 0);
    }

    private static long nanosFromTo(long from, long to) {
        return to - from;
    }

    private boolean areMomentsSound() {
        for (int from = 0; from < moments.length; from++) {
            for (int to = 0; to < moments.length; to++) {
                for (int by = 0; by < moments.length; by++) {
                    long byWay = nanosFromTo(moments[from], moments[by]) + nanosFromTo(moments[by], moments[to]);
                    if (byWay != nanosFromTo(moments[from], moments[to])) {
                        return false;
                    }
                }
            }
        }
        return true;
    }

    private boolean isLedgerSound() {
        boolean fits = addEntriesIfFit();
        for (int i = entryCount - 1; i >= 0 && fits; i--) {
            fits = work.lengthenIfFits(entries[i].turnedSeconds(), entries[i].turnedRest());
        }
        return !fits || work.sign() == 0;
    }

    /** A whole number of NANOS, told as its SECONDS, rounded down, and its REST. */
    private static final class Span {
        long seconds;
        int rest;

        void become(long newSeconds, int newRest) {
            seconds = newSeconds;
            rest = newRest;
        }

        void becomeLike(Span other) {
            become(other.seconds, other.rest);
        }

        int sign() {
            if (seconds < 0) {
                return -1;
            }
            return seconds == 0 && rest == 0 ? 0 : 1;
        }

        int orderTo(Span other) {
            if (seconds != other.seconds) {
                return seconds < other.seconds ? -1 : 1;
            }
            if (rest != other.rest) {
                return rest < other.rest ? -1 : 1;
            }
            return 0;
        }

        long turnedSeconds() {
            return rest == 0 ? -seconds : -seconds - 1;
        }

        int turnedRest() {
            return rest == 0 ? 0 : NANOS_IN_SECOND - rest;
        }

        long secondsTowardsZero() {
            return seconds < 0 && rest > 0 ? seconds + 1 : seconds;
        }

        int nanosTowardsZero() {
            return seconds < 0 && rest > 0 ? rest - NANOS_IN_SECOND : rest;
        }

        void lengthen(long moreSeconds, int moreRest) {
            int bothRests = rest + moreRest;
            if (bothRests >= NANOS_IN_SECOND) {
                become(seconds + moreSeconds + 1, bothRests - NANOS_IN_SECOND);
            } else {
                become(seconds + moreSeconds, bothRests);
            }
        }

        // What is left to both bounds is looked at, since the sum itself may not go into a long.
        boolean lengthenIfFits(long moreSeconds, int moreRest) {
            long first = rest + moreRest >= NANOS_IN_SECOND ? seconds + 1 : seconds;
            if (moreSeconds > MOST_SECONDS - first || moreSeconds < -MOST_SECONDS - first) {
                return false;
            }
            lengthen(moreSeconds, moreRest);
            return true;
        }
    }
}
