import java.math.BigInteger;

/** Promises 3 to 8 and 13 to 24: spans made of an AMOUNT, longer and shorter by one. */
final class AmountBounds extends Bounds {
    private static final int MOST_POWER = 18;
    private static final BigInteger MOST_AMOUNT = BigInteger.valueOf(Long.MAX_VALUE);
    private static final String NO_AMOUNT = "Throws `IllegalArgumentException` if k is not 0 to 18, or a and k are no "
            + "AMOUNT";

    private interface Call {
        int on(Spanledger x, int at, int a, int k);
    }

    /** One of the eighteen methods: its promise, its UNIT, and what it does with an AMOUNT. */
    private record Member(int promise, String name, String units, long nanos, Doing doing, Call call) {
        String heading() {
            return "Promise " + promise + ": " + name;
        }

        BigInteger result(BigInteger start, BigInteger count) {
            BigInteger by = count.multiply(BigInteger.valueOf(nanos));
            return switch (doing) {
                case MAKES -> by;
                case LENGTHENS -> start.add(by);
                case SHORTENS -> start.subtract(by);
            };
        }
    }

    private enum Doing { MAKES, LENGTHENS, SHORTENS }

    private static final long DAY = 86_400_000_000_000L;
    private static final long HOUR = 3_600_000_000_000L;
    private static final long MINUTE = 60_000_000_000L;
    private static final long SECOND = 1_000_000_000L;
    private static final long MILLI = 1_000_000L;
    private static final long NANO = 1L;

    private static final Member[] MEMBERS = {
        new Member(3, "days", "DAYS", DAY, Doing.MAKES, Spanledger::days),
        new Member(4, "hours", "HOURS", HOUR, Doing.MAKES, Spanledger::hours),
        new Member(5, "minutes", "MINUTES", MINUTE, Doing.MAKES, Spanledger::minutes),
        new Member(6, "seconds", "SECONDS", SECOND, Doing.MAKES, Spanledger::seconds),
        new Member(7, "millis", "MILLIS", MILLI, Doing.MAKES, Spanledger::millis),
        new Member(8, "nanos", "NANOS", NANO, Doing.MAKES, Spanledger::nanos),
        new Member(13, "plusDays", "DAYS", DAY, Doing.LENGTHENS, Spanledger::plusDays),
        new Member(14, "plusHours", "HOURS", HOUR, Doing.LENGTHENS, Spanledger::plusHours),
        new Member(15, "plusMinutes", "MINUTES", MINUTE, Doing.LENGTHENS, Spanledger::plusMinutes),
        new Member(16, "plusSeconds", "SECONDS", SECOND, Doing.LENGTHENS, Spanledger::plusSeconds),
        new Member(17, "plusMillis", "MILLIS", MILLI, Doing.LENGTHENS, Spanledger::plusMillis),
        new Member(18, "plusNanos", "NANOS", NANO, Doing.LENGTHENS, Spanledger::plusNanos),
        new Member(19, "minusDays", "DAYS", DAY, Doing.SHORTENS, Spanledger::minusDays),
        new Member(20, "minusHours", "HOURS", HOUR, Doing.SHORTENS, Spanledger::minusHours),
        new Member(21, "minusMinutes", "MINUTES", MINUTE, Doing.SHORTENS, Spanledger::minusMinutes),
        new Member(22, "minusSeconds", "SECONDS", SECOND, Doing.SHORTENS, Spanledger::minusSeconds),
        new Member(23, "minusMillis", "MILLIS", MILLI, Doing.SHORTENS, Spanledger::minusMillis),
        new Member(24, "minusNanos", "NANOS", NANO, Doing.SHORTENS, Spanledger::minusNanos),
    };

    AmountBounds(Due due, Sentences document) {
        super(due, document);
    }

    @Override
    void run() {
        for (Member member : MEMBERS) {
            becomes(member);
            signOrRefused(member);
            noSpan(member);
            noAmount(member);
        }
    }

    // ---- what it becomes

    private void becomes(Member member) {
        says(member.heading(), switch (member.doing) {
            case MAKES -> "A SPAN becomes an AMOUNT of " + member.units + ".";
            case LENGTHENS -> "A SPAN becomes longer by an AMOUNT of " + member.units + ".";
            case SHORTENS -> "A SPAN becomes shorter by an AMOUNT of " + member.units + ".";
        });
        for (int sign = -1; sign <= 1; sign++) {
            for (int k = 0; k <= 3; k++) {
                told(member, BigInteger.ZERO, sign, k);
                told(member, BigInteger.valueOf(-1), sign * 2, k);
                told(member, BigInteger.valueOf(12_345_678_901L), sign * 7, k);
            }
        }
        told(member, Put.MOST, 0, MOST_POWER);
        told(member, Put.LEAST, 0, MOST_POWER);
        oneSpanAlone(member);
    }

    private void oneSpanAlone(Member member) {
        for (int at = 0; at < SPANS; at++) {
            Spanledger x = new Spanledger();
            member.call.on(x, at, 1, 0);
            due.answer(member.name + ": one SPAN alone is not ZERO", x.house(3) + " " + x.isZero(at), "5 false");
        }
    }

    // ---- its SIGN, or REFUSED

    private void signOrRefused(Member member) {
        boolean isMade = member.doing == Doing.MAKES;
        String how = member.doing == Doing.LENGTHENS ? " (what it was plus that)" : " (what it was less that)";
        says(member.heading(),
                "Returns its SIGN then" + (isMade ? "" : how) + "; REFUSED if it would not FIT then.");
        aroundZero(member);
        for (int k = 0; k <= MOST_POWER; k++) {
            atTheLastThatFits(member, BigInteger.ZERO, k);
            if (!isMade) {
                atTheLastThatFits(member, Put.LEAST, k);
                atTheLastThatFits(member, Put.MOST, k);
            }
        }
        if (isMade) {
            wrapsAround(member);
            neverRefused(member);
        } else {
            aroundTheBounds(member);
        }
    }

    /** One UNIT up or down to ZERO, to a nano less and to a nano more. */
    private void aroundZero(Member member) {
        for (int sign : new int[] {-1, 1}) {
            BigInteger unit = member.result(BigInteger.ZERO, BigInteger.valueOf(sign));
            for (int nano = -1; nano <= 1; nano++) {
                told(member, unit.negate().add(BigInteger.valueOf(nano)), sign, 0);
            }
        }
    }

    /** One UNIT up or down to the most and the least, to what lies a nano inside, and a nano outside. */
    private void aroundTheBounds(Member member) {
        for (int a : new int[] {-1, 1}) {
            BigInteger unit = member.result(BigInteger.ZERO, BigInteger.valueOf(a));
            BigInteger bound = unit.signum() > 0 ? Put.MOST : Put.LEAST;
            BigInteger inwards = BigInteger.valueOf(-unit.signum());
            BigInteger start = bound.subtract(unit);
            told(member, start, a, 0);
            told(member, start.add(inwards), a, 0);
            told(member, start.subtract(inwards), a, 0);
            due.refused(member.name + " a nano beyond the bound", x -> Put.span(x, 0, start.subtract(inwards)),
                    x -> member.call.on(x, 0, a, 0));
            due.refused(member.name + " a whole UNIT beyond it", x -> Put.span(x, 0, bound),
                    x -> member.call.on(x, 0, a, 0));
        }
    }

    /** The greatest and the least a of a k with which the SPAN still FITS, those inside, and those just outside. */
    private void atTheLastThatFits(Member member, BigInteger start, int k) {
        BigInteger unit = BigInteger.valueOf(member.nanos).multiply(BigInteger.TEN.pow(k));
        for (int sign : new int[] {-1, 1}) {
            boolean isUp = (sign > 0) == (member.doing != Doing.SHORTENS);
            BigInteger from = member.doing == Doing.MAKES ? BigInteger.ZERO : start;
            BigInteger room = isUp ? Put.MOST.subtract(from) : from.subtract(Put.LEAST);
            BigInteger last = room.divide(unit);
            for (int more = -1; more <= 1; more++) {
                BigInteger a = last.add(BigInteger.valueOf(more)).multiply(BigInteger.valueOf(sign));
                if (a.bitLength() < 32) {
                    told(member, start, a.intValueExact(), k);
                }
            }
            told(member, start, Integer.MAX_VALUE * sign, k);
        }
        told(member, start, Integer.MIN_VALUE, k);
    }

    /** What does not FIT, but would in a long that wraps around. */
    private void wrapsAround(Member member) {
        int found = 0;
        for (int k = 0; k <= MOST_POWER && member.nanos > SECOND; k++) {
            for (int a = 1; a <= 2_000; a++) {
                BigInteger amount = BigInteger.valueOf(a).multiply(BigInteger.TEN.pow(k));
                BigInteger seconds = amount.multiply(BigInteger.valueOf(member.nanos / SECOND));
                boolean wraps = seconds.bitLength() > 63 && amount.compareTo(MOST_AMOUNT) <= 0;
                if (wraps && Math.abs(seconds.longValue()) <= Put.MOST_SECONDS) {
                    told(member, BigInteger.ONE, a, k);
                    told(member, BigInteger.ONE, -a, k);
                    found++;
                }
            }
        }
        due.answer(member.name + ": some wrap around", found > 0, member.nanos > SECOND);
    }

    /** A SPAN of MILLIS or NANOS alone FITS, up to the greatest and down to the least AMOUNT of each k. */
    private void neverRefused(Member member) {
        if (member.nanos >= SECOND) {
            return;
        }
        Spanledger x = new Spanledger();
        for (int k = 0; k <= MOST_POWER; k++) {
            BigInteger most = MOST_AMOUNT.divide(BigInteger.TEN.pow(k));
            int last = most.min(BigInteger.valueOf(Integer.MAX_VALUE)).intValueExact();
            due.answer(member.name + " of the greatest AMOUNT, k " + k, member.call.on(x, 3, last, k), 1);
            due.answer(member.name + " of the least AMOUNT, k " + k, member.call.on(x, 3, -last, k), -1);
        }
        due.answer(member.name + " never told REFUSED", x.house(1), 0);
    }

    /** One call on SPAN 3 that is put to a start: what it answers, what the SPAN is then, what else has changed. */
    private void told(Member member, BigInteger start, int a, int k) {
        Spanledger x = new Spanledger();
        Put.span(x, 3, start);
        BigInteger amount = BigInteger.valueOf(a).multiply(BigInteger.TEN.pow(k));
        BigInteger result = member.result(start, amount);
        boolean isAmount = amount.abs().compareTo(MOST_AMOUNT) <= 0;
        boolean fits = Put.fits(result);
        Object want = !isAmount ? ARGUMENT : fits ? (Object) result.signum() : (Object) Due.REFUSED;
        BigInteger then = isAmount && fits ? result : start;
        String call = member.name + "(3, " + a + ", " + k + ") from " + Put.textOf(start);
        due.answer(call, Due.outcomeOf(y -> member.call.on(y, 3, a, k), x), want);
        due.answer(call + ", and then", Due.stateOf(x), "spans 0.0 0.0 0.0 " + Put.textOf(then)
                + " 0.0 0.0 moments 0 0 0 0 entries knocks 0 refused " + (isAmount && !fits ? 1 : 0));
    }

    // ---- exceptions

    private void noSpan(Member member) {
        says(member.heading(), NO_SPAN);
        numbersFromZero(member.name, SPANS, INDEX, (y, at) -> member.call.on(y, at, 1, 0));
        numbersFromZero(member.name + " by what does not FIT", SPANS, INDEX, (y, at) -> member.call.on(y, at, 9, 18));
        for (int at : new int[] {-1, SPANS}) {
            due.thrown(member.name + " at " + at + ", k wrong", INDEX, y -> member.call.on(y, at, 1, -1));
            due.thrown(member.name + " at " + at + ", k wrong", INDEX, y -> member.call.on(y, at, 1, 19));
            due.thrown(member.name + " at " + at + ", no AMOUNT", INDEX, y -> member.call.on(y, at, 10, 18));
        }
    }

    private void noAmount(Member member) {
        says(member.heading(), NO_AMOUNT);
        numbersFromZero(member.name + " k", 19, ARGUMENT, (y, k) -> member.call.on(y, 1, 1, k));
        numbersFromZero(member.name + " k of 0", 19, ARGUMENT, (y, k) -> member.call.on(y, 1, 0, k));
        for (int k = 10; k <= MOST_POWER; k++) {
            int power = k;
            int last = MOST_AMOUNT.divide(BigInteger.TEN.pow(k)).intValueExact();
            told(member, BigInteger.ONE, last - 1, k);
            told(member, BigInteger.ONE, last, k);
            told(member, BigInteger.ONE, 1 - last, k);
            told(member, BigInteger.ONE, -last, k);
            due.thrown(member.name + " one more, k " + k, ARGUMENT, y -> member.call.on(y, 1, last + 1, power));
            due.thrown(member.name + " one less, k " + k, ARGUMENT, y -> member.call.on(y, 1, -last - 1, power));
            due.thrown(member.name + " the greatest a, k " + k, ARGUMENT,
                    y -> member.call.on(y, 1, Integer.MAX_VALUE, power));
            due.thrown(member.name + " the least a, k " + k, ARGUMENT,
                    y -> member.call.on(y, 1, Integer.MIN_VALUE, power));
        }
        told(member, BigInteger.ONE, Integer.MAX_VALUE, 9);
        told(member, BigInteger.ONE, Integer.MIN_VALUE, 9);
    }
}
