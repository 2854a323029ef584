/** The Description's second part: TOTALS, what is TOO GREAT, PARTS of a SPAN below 0. */
final class TotalBounds extends Bounds {
    private static final String HERE = "Description";

    private static final int DAYS = 0;
    private static final int HOURS = 1;
    private static final int MINUTES = 2;
    private static final int SECONDS = 3;
    private static final int MILLIS = 4;
    private static final int NANOS = 5;

    TotalBounds(Due due, Sentences document) {
        super(due, document);
    }

    @Override
    void run() {
        totalDays();
        totalHours();
        totalMinutes();
        totalSeconds();
        totalMillis();
        totalNanos();
        nanosTooGreat();
        millisTooGreat();
        partDays();
        partHours();
        partMinutes();
        partSeconds();
        partMillis();
        partNanos();
        partsTogether();
    }

    private void total(int what, long seconds, int rest, String want) {
        due.answer("TOTAL " + what + " of " + seconds + "." + rest, Put.of(seconds, rest).total(0, what), want);
    }

    private void part(int what, long seconds, int rest, String want) {
        due.answer("PART " + what + " of " + seconds + "." + rest, Put.of(seconds, rest).part(0, what), want);
    }

    /** A TOTAL of a unit of so many SECONDS, at one unit and beside it, above and below 0. */
    private void totalAtOneUnit(int what, int unit) {
        total(what, 0, 0, "0");
        total(what, unit - 1, 999_999_999, "0");
        total(what, unit, 0, "1");
        total(what, 2L * unit - 1, 999_999_999, "1");
        total(what, 2L * unit, 0, "2");
        total(what, 1 - unit, 0, "0");
        total(what, 1 - unit, 999_999_999, "0");
        total(what, -unit, 1, "-1");
        total(what, -unit, 0, "-1");
        total(what, -unit, 999_999_999, "-1");
        total(what, 1 - 2L * unit, 0, "-1");
        total(what, -2L * unit, 500_000_000, "-2");
    }

    private void totalDays() {
        says(HERE, "TOTALS of a SPAN: 0 DAYS: SECONDS / 86,400;");
        totalAtOneUnit(DAYS, 86_400);
        total(DAYS, Put.MOST_SECONDS, 999_999_999, "46296296296296");
        total(DAYS, -Put.MOST_SECONDS, 0, "-46296296296296");
    }

    private void totalHours() {
        says(HERE, "1 HOURS: SECONDS / 3,600;");
        totalAtOneUnit(HOURS, 3_600);
        total(HOURS, Put.MOST_SECONDS, 999_999_999, "1111111111111111");
        total(HOURS, -Put.MOST_SECONDS, 0, "-1111111111111111");
    }

    private void totalMinutes() {
        says(HERE, "2 MINUTES: SECONDS / 60 (all three towards 0: of SECONDS, not of the SPAN: of -59 seconds and a "
                + "half SECONDS are -60, so MINUTES are -1);");
        totalAtOneUnit(MINUTES, 60);
        Spanledger x = new Spanledger();
        x.millis(0, -59_500, 0);
        due.answer("-59 seconds and a half", x.secondsOf(0) + " " + x.total(0, MINUTES), "-60 -1");
        total(MINUTES, Put.MOST_SECONDS, 999_999_999, "66666666666666666");
        total(MINUTES, -Put.MOST_SECONDS, 0, "-66666666666666666");
    }

    private void totalSeconds() {
        says(HERE, "3 SECONDS;");
        total(SECONDS, 0, 999_999_999, "0");
        total(SECONDS, 1, 0, "1");
        total(SECONDS, -1, 999_999_999, "-1");
        total(SECONDS, -1, 0, "-1");
        total(SECONDS, -2, 999_999_999, "-2");
        total(SECONDS, Put.MOST_SECONDS, 999_999_999, "4000000000000000000");
        total(SECONDS, -Put.MOST_SECONDS, 0, "-4000000000000000000");
    }

    private void totalMillis() {
        says(HERE, "4 MILLIS: the SPAN's NANOS / 1,000,000 (towards 0: of -1 NANO it is 0);");
        total(MILLIS, 0, 0, "0");
        total(MILLIS, 0, 999_999, "0");
        total(MILLIS, 0, 1_000_000, "1");
        total(MILLIS, 0, 1_999_999, "1");
        total(MILLIS, 0, 999_999_999, "999");
        total(MILLIS, 1, 0, "1000");
        total(MILLIS, -1, 999_999_999, "0");
        total(MILLIS, -1, 999_000_001, "0");
        total(MILLIS, -1, 999_000_000, "-1");
        total(MILLIS, -1, 998_999_999, "-1");
        total(MILLIS, -1, 1, "-999");
        total(MILLIS, -1, 0, "-1000");
        total(MILLIS, -2, 999_999_999, "-1000");
        total(MILLIS, -2, 999_000_000, "-1001");
    }

    private void totalNanos() {
        says(HERE, "5 NANOS: all of them.");
        total(NANOS, 0, 0, "0");
        total(NANOS, 0, 1, "1");
        total(NANOS, 0, 999_999_999, "999999999");
        total(NANOS, 1, 0, "1000000000");
        total(NANOS, -1, 999_999_999, "-1");
        total(NANOS, -1, 1, "-999999999");
        total(NANOS, -1, 0, "-1000000000");
        total(NANOS, -2, 999_999_999, "-1000000001");
    }

    private void nanosTooGreat() {
        says(HERE, "A TOTAL of MILLIS or NANOS that is not from -9,223,372,036,854,775,808 to "
                + "9,223,372,036,854,775,807 is TOO GREAT.");
        total(NANOS, 9_223_372_036L, 854_775_806, "9223372036854775806");
        total(NANOS, 9_223_372_036L, 854_775_807, "9223372036854775807");
        total(NANOS, 9_223_372_036L, 854_775_808, "!");
        total(NANOS, 9_223_372_037L, 0, "!");
        total(NANOS, -9_223_372_037L, 145_224_193, "-9223372036854775807");
        total(NANOS, -9_223_372_037L, 145_224_192, "-9223372036854775808");
        total(NANOS, -9_223_372_037L, 145_224_191, "!");
        total(NANOS, -9_223_372_037L, 0, "!");
        total(NANOS, -9_223_372_036L, 0, "-9223372036000000000");
        total(NANOS, -9_223_372_038L, 999_999_999, "!");
        // 2 to the power of 64, and a little more: what a long would take for a small number.
        total(NANOS, 18_446_744_073L, 709_551_616, "!");
        total(NANOS, 18_446_744_074L, 0, "!");
        total(NANOS, -18_446_744_074L, 0, "!");
        total(NANOS, Put.MOST_SECONDS, 999_999_999, "!");
        total(NANOS, -Put.MOST_SECONDS, 0, "!");
    }

    private void millisTooGreat() {
        says(HERE, "A TOTAL of MILLIS or NANOS that is not from -9,223,372,036,854,775,808 to "
                + "9,223,372,036,854,775,807 is TOO GREAT.");
        total(MILLIS, 9_223_372_036_854_775L, 806_999_999, "9223372036854775806");
        total(MILLIS, 9_223_372_036_854_775L, 807_000_000, "9223372036854775807");
        total(MILLIS, 9_223_372_036_854_775L, 807_999_999, "9223372036854775807");
        total(MILLIS, 9_223_372_036_854_775L, 808_000_000, "!");
        total(MILLIS, 9_223_372_036_854_776L, 0, "!");
        total(MILLIS, -9_223_372_036_854_776L, 192_000_001, "-9223372036854775807");
        total(MILLIS, -9_223_372_036_854_776L, 192_000_000, "-9223372036854775808");
        total(MILLIS, -9_223_372_036_854_776L, 191_000_001, "-9223372036854775808");
        total(MILLIS, -9_223_372_036_854_776L, 191_000_000, "!");
        total(MILLIS, -9_223_372_036_854_776L, 0, "!");
        total(MILLIS, -9_223_372_036_854_775L, 0, "-9223372036854775000");
        total(MILLIS, 18_446_744_073_709_551L, 616_000_000, "!");
        total(MILLIS, 18_446_744_073_709_552L, 0, "!");
        total(MILLIS, -18_446_744_073_709_552L, 0, "!");
        total(MILLIS, Put.MOST_SECONDS, 999_999_999, "!");
        total(MILLIS, -Put.MOST_SECONDS, 0, "!");
    }

    private void partDays() {
        says(HERE, "PARTS of a SPAN: 0 DAYS: its TOTAL of DAYS;");
        part(DAYS, 86_399, 999_999_999, "0");
        part(DAYS, 86_400, 0, "1");
        part(DAYS, -86_399, 0, "0");
        part(DAYS, -86_400, 999_999_999, "-1");
        part(DAYS, -86_400, 0, "-1");
        part(DAYS, Put.MOST_SECONDS, 999_999_999, "46296296296296");
        part(DAYS, -Put.MOST_SECONDS, 0, "-46296296296296");
    }

    private void partHours() {
        says(HERE, "1 HOURS: its TOTAL of HOURS MODULO 24;");
        part(HOURS, 3_599, 999_999_999, "0");
        part(HOURS, 3_600, 0, "1");
        part(HOURS, 86_399, 999_999_999, "23");
        part(HOURS, 86_400, 0, "0");
        part(HOURS, 90_000, 0, "1");
        part(HOURS, -3_599, 0, "0");
        part(HOURS, -3_600, 999_999_999, "-1");
        part(HOURS, -86_399, 0, "-23");
        part(HOURS, -86_400, 999_999_999, "0");
        part(HOURS, -90_000, 0, "-1");
    }

    private void partMinutes() {
        says(HERE, "2 MINUTES: its TOTAL of MINUTES MODULO 60;");
        part(MINUTES, 59, 999_999_999, "0");
        part(MINUTES, 60, 0, "1");
        part(MINUTES, 3_599, 999_999_999, "59");
        part(MINUTES, 3_600, 0, "0");
        part(MINUTES, 3_660, 0, "1");
        part(MINUTES, -59, 0, "0");
        part(MINUTES, -60, 999_999_999, "-1");
        part(MINUTES, -3_599, 0, "-59");
        part(MINUTES, -3_600, 999_999_999, "0");
        part(MINUTES, -3_660, 0, "-1");
    }

    private void partSeconds() {
        says(HERE, "3 SECONDS: its SECONDS MODULO 60 (all MODULO towards 0: none of them above 0 of a SPAN whose "
                + "SECONDS are below 0);");
        part(SECONDS, 0, 999_999_999, "0");
        part(SECONDS, 59, 999_999_999, "59");
        part(SECONDS, 60, 0, "0");
        part(SECONDS, 61, 0, "1");
        part(SECONDS, -1, 999_999_999, "-1");
        part(SECONDS, -59, 0, "-59");
        part(SECONDS, -60, 500_000_000, "0");
        part(SECONDS, -60, 0, "0");
        part(SECONDS, -61, 0, "-1");
        for (long seconds : new long[] {-1, -59, -60, -3_599, -3_600, -86_399, -86_400, -90_061, -Put.MOST_SECONDS}) {
            Spanledger x = Put.of(seconds, 999_999_999);
            for (int what = DAYS; what <= SECONDS; what++) {
                due.answer("PART " + what + " of " + seconds, Long.parseLong(x.part(0, what)) <= 0, true);
            }
        }
    }

    private void partMillis() {
        says(HERE, "4 MILLIS: its REST / 1,000,000 (0 to 999);");
        part(MILLIS, 0, 0, "0");
        part(MILLIS, 0, 999_999, "0");
        part(MILLIS, 0, 1_000_000, "1");
        part(MILLIS, 0, 998_999_999, "998");
        part(MILLIS, 0, 999_000_000, "999");
        part(MILLIS, 7, 999_999_999, "999");
        part(MILLIS, -1, 999_999_999, "999");
        part(MILLIS, -1, 1_000_000, "1");
        part(MILLIS, -1, 999_999, "0");
        part(MILLIS, -1, 0, "0");
    }

    private void partNanos() {
        says(HERE, "5 NANOS: its REST.");
        part(NANOS, 0, 0, "0");
        part(NANOS, 0, 1, "1");
        part(NANOS, 0, 999_999_999, "999999999");
        part(NANOS, 1, 0, "0");
        part(NANOS, -1, 999_999_999, "999999999");
        part(NANOS, -1, 0, "0");
        part(NANOS, -1, 1, "1");
    }

    private void partsTogether() {
        says(HERE, "(So PARTS 0 to 3, in seconds, and REST together are the SPAN.)");
        long[] all = {
            0, 59, 60, 3_599, 3_600, 86_399, 86_400, 90_061, Put.MOST_SECONDS,
            -1, -59, -60, -61, -3_599, -3_600, -3_601, -86_399, -86_400, -86_401, -90_061, -Put.MOST_SECONDS,
        };
        for (long seconds : all) {
            Spanledger x = Put.of(seconds, 999_999_999);
            long together = Long.parseLong(x.part(0, DAYS)) * 86_400 + Long.parseLong(x.part(0, HOURS)) * 3_600
                    + Long.parseLong(x.part(0, MINUTES)) * 60 + Long.parseLong(x.part(0, SECONDS));
            due.answer("PARTS 0 to 3 of " + seconds, together, seconds);
            due.answer("PART 5 of " + seconds, x.part(0, NANOS), "" + x.restOf(0));
        }
    }
}
