/** Promises 42 to 51: the ledger, empty, with one ENTRY, with eleven, and full. */
final class LedgerBounds extends Bounds {
    private static final String POST = "Promise 42: post";
    private static final String TAKE = "Promise 43: take";
    private static final String CLEAR = "Promise 44: clear";
    private static final String SORT = "Promise 45: sort";
    private static final String FETCH = "Promise 46: fetch";
    private static final String SET = "Promise 47: set";
    private static final String ENTRY = "Promise 48: entry";
    private static final String PLACE = "Promise 49: place";
    private static final String SUM = "Promise 50: sum";
    private static final String STEPS = "Promise 51: steps";

    LedgerBounds(Due due, Sentences document) {
        super(due, document);
    }

    @Override
    void run() {
        post();
        take();
        clear();
        sort();
        fetch();
        set();
        entry();
        place();
        sum();
        sumAtTheBounds();
        sumRefused();
        steps();
    }

    /** A ledger with these numbers of nanos, one behind the other; the SPANS are ZERO. */
    private static Spanledger ledgerOf(int... nanos) {
        Spanledger x = new Spanledger();
        for (int each : nanos) {
            x.nanos(0, each, 0);
            x.post(0);
        }
        x.zero(0);
        return x;
    }

    private static Spanledger ledgerOfMany(int count) {
        int[] nanos = new int[count];
        for (int i = 0; i < count; i++) {
            nanos[i] = i + 1;
        }
        return ledgerOf(nanos);
    }

    private void post() {
        says(POST, "A SPAN is posted behind the LEDGER.");
        Spanledger x = ledgerOf();
        Put.most(x, 1);
        Put.least(x, 2);
        x.nanos(3, -1, 0);
        x.post(1);
        x.post(2);
        x.post(3);
        x.post(0);
        due.answer("four", entriesOf(x), "4000000000000000000.999999999 -4000000000000000000.0 -1.999999999 0.0");
        Spanledger eleven = ledgerOfMany(11);
        eleven.nanos(5, 12, 0);
        eleven.post(5);
        due.answer("the twelfth", entriesOf(eleven), "0.1 0.2 0.3 0.4 0.5 0.6 0.7 0.8 0.9 0.10 0.11 0.12");
        says(POST, "Returns how many ENTRIES there are then.");
        for (int before = 0; before < FULL; before++) {
            due.answer("post behind " + before, ledgerOfMany(before).post(0), before + 1);
        }
        says(POST, NO_SPAN);
        numbersFromZero("post", SPANS, INDEX, Spanledger::post);
        numbersFromZero("post as the last", SPANS, INDEX, y -> clearAndPost(y, 1, 11), Spanledger::post);
        due.thrown("no SPAN, and 12", INDEX, y -> clearAndPost(y, 1, FULL), y -> y.post(6));
        says(POST, "Throws `IllegalStateException` if there are 12");
        due.answer("with 11", Due.outcomeOf(y -> y.post(0), ledgerOfMany(11)), 12);
        due.thrown("with 12", STATE, y -> clearAndPost(y, 1, FULL), y -> y.post(0));
        Spanledger full = ledgerOfMany(12);
        due.answer("with 12 once more", Due.outcomeOf(y -> y.post(0), full), STATE);
        full.take();
        due.answer("with one taken", Due.outcomeOf(y -> y.post(5), full) + " " + full.entry(11), "12 0.0");
        due.answer("and again", Due.outcomeOf(y -> y.post(0), full), STATE);
    }

    private void take() {
        says(TAKE, "The last ENTRY goes.");
        Spanledger x = ledgerOf(3, 1, 2);
        x.take();
        due.answer("of three", entriesOf(x), "0.3 0.1");
        x.take();
        x.take();
        due.answer("of one", entriesOf(x), "");
        Spanledger full = ledgerOfMany(FULL);
        full.take();
        due.answer("of twelve", entriesOf(full), "0.1 0.2 0.3 0.4 0.5 0.6 0.7 0.8 0.9 0.10 0.11");
        says(TAKE, "Returns how many ENTRIES are left.");
        for (int before = FULL; before > 0; before--) {
            due.answer("take of " + before, ledgerOfMany(before).take(), before - 1);
        }
        says(TAKE, "Throws `IllegalStateException` if there is none");
        due.answer("with one", Due.outcomeOf(Spanledger::take, ledgerOf(1)), 0);
        due.thrown("with none", STATE, Spanledger::clear, Spanledger::take);
        Spanledger none = ledgerOf(1);
        none.take();
        due.answer("with the last one taken", Due.outcomeOf(Spanledger::take, none), STATE);
        due.answer("and then", none.house(0) + " " + none.post(0), "0 1");
    }

    private void clear() {
        says(CLEAR, "All ENTRIES go.");
        for (int before = 0; before <= FULL; before++) {
            Spanledger x = ledgerOfMany(before);
            x.clear();
            due.answer("entries of " + before + " then", x.house(0) + entriesOf(x), "0");
            due.answer("no entry of " + before + " then", Due.outcomeOf(y -> y.entry(0), x), INDEX);
            due.answer("post then", x.post(0) + " " + x.entry(0), "1 0.0");
        }
        says(CLEAR, "Returns how many there were.");
        for (int before = 0; before <= FULL; before++) {
            due.answer("clear of " + before, ledgerOfMany(before).clear(), before);
        }
        due.answer("clear again", clearedTwice(), 0);
    }

    private static int clearedTwice() {
        Spanledger x = ledgerOfMany(FULL);
        x.clear();
        return x.clear();
    }

    private void sort() {
        says(SORT, "The LEDGER is SORTED.");
        due.answer("none", sorted(), "");
        due.answer("one", sorted(5), "0.5");
        due.answer("two", sorted(2, 1), "0.1 0.2");
        due.answer("two in order", sorted(1, 2), "0.1 0.2");
        due.answer("a nano below, none, a nano above", sorted(1, 0, -1), "-1.999999999 0.0 0.1");
        due.answer("by SECONDS ahead of RESTS", sorted(1_000_000_000, 999_999_999, -1_000_000_000, -1),
                "-1.0 -1.999999999 0.999999999 1.0");
        due.answer("twelve falling", sorted(12, 11, 10, 9, 8, 7, 6, 5, 4, 3, 2, 1),
                "0.1 0.2 0.3 0.4 0.5 0.6 0.7 0.8 0.9 0.10 0.11 0.12");
        due.answer("twelve, the least last", sorted(2, 3, 4, 5, 6, 7, 8, 9, 10, 11, 12, 1),
                "0.1 0.2 0.3 0.4 0.5 0.6 0.7 0.8 0.9 0.10 0.11 0.12");
        due.answer("some ALIKE", sorted(2, 1, 2, 1, 2, 1), "0.1 0.1 0.1 0.2 0.2 0.2");
        Spanledger taken = ledgerOf(3, 2, 1);
        taken.take();
        taken.sort();
        due.answer("what is taken stays away", entriesOf(taken), "0.2 0.3");
        Spanledger bounds = new Spanledger();
        Put.most(bounds, 0);
        Put.least(bounds, 1);
        for (int at = 0; at < 3; at++) {
            bounds.post(at);
        }
        bounds.sort();
        due.answer("the most, the least and ZERO", entriesOf(bounds),
                "-4000000000000000000.0 0.0 4000000000000000000.999999999");
        says(SORT, "Returns how many ENTRIES it has.");
        for (int count = 0; count <= FULL; count++) {
            due.answer("sort of " + count, ledgerOfMany(count).sort(), count);
        }
    }

    private static String sorted(int... nanos) {
        Spanledger x = ledgerOf(nanos);
        x.sort();
        return entriesOf(x);
    }

    private void fetch() {
        says(FETCH, "A SPAN becomes what an ENTRY is.");
        Spanledger x = ledgerOfMany(FULL);
        x.fetch(0, 0);
        x.fetch(5, 11);
        due.answer("the first and the last", x.text(0) + " " + x.text(5), "0.1 0.12");
        x.plusNanos(0, 1, 0);
        due.answer("the entry stays", x.entry(0), "0.1");
        says(FETCH, "Returns its SIGN then.");
        Spanledger signs = ledgerOf(-1, 0, 1);
        due.answer("below", signs.fetch(0, 0), -1);
        due.answer("ZERO", signs.fetch(0, 1), 0);
        due.answer("above", signs.fetch(0, 2), 1);
        says(FETCH, "Throws `IndexOutOfBoundsException` if there is no such SPAN or ENTRY");
        numbersFromZero("fetch at", SPANS, INDEX, (y, at) -> y.fetch(at, 1));
        for (int count : new int[] {1, 2, 11, FULL}) {
            numbersFromZero("fetch of " + count, count, INDEX, y -> clearAndPost(y, 1, count),
                    (y, entry) -> y.fetch(0, entry));
        }
        due.thrown("fetch of none", INDEX, Spanledger::clear, y -> y.fetch(0, 0));
        due.thrown("fetch of one that is taken", INDEX, Spanledger::take, y -> y.fetch(0, 2));
        due.thrown("no SPAN, no ENTRY", INDEX, y -> y.fetch(6, 3));
    }

    private void set() {
        says(SET, "An ENTRY becomes what a SPAN is.");
        Spanledger x = ledgerOfMany(FULL);
        Put.most(x, 0);
        Put.least(x, 5);
        x.set(0, 0);
        x.set(11, 5);
        due.answer("the first and the last", entriesOf(x), "4000000000000000000.999999999 0.2 0.3 0.4 0.5 0.6 0.7 0.8 "
                + "0.9 0.10 0.11 -4000000000000000000.0");
        x.zero(0);
        due.answer("the entry is its own", x.entry(0), "4000000000000000000.999999999");
        says(SET, "Returns the SIGN that it had.");
        Spanledger signs = ledgerOf(-1, 0, 1);
        signs.nanos(1, 1, 0);
        signs.nanos(2, -1, 0);
        due.answer("that was below", signs.set(0, 1), -1);
        due.answer("that was ZERO", signs.set(1, 2), 0);
        due.answer("that was above", signs.set(2, 0), 1);
        due.answer("and then", signs.set(0, 0) + " " + signs.set(1, 0) + " " + signs.set(2, 1), "1 -1 0");
        says(SET, "Throws `IndexOutOfBoundsException` if there is no such ENTRY or SPAN");
        numbersFromZero("set to", SPANS, INDEX, (y, at) -> y.set(1, at));
        for (int count : new int[] {1, 2, 11, FULL}) {
            numbersFromZero("set of " + count, count, INDEX, y -> clearAndPost(y, 1, count),
                    (y, entry) -> y.set(entry, 0));
        }
        due.thrown("set of none", INDEX, Spanledger::clear, y -> y.set(0, 0));
        due.thrown("set of one that is taken", INDEX, Spanledger::take, y -> y.set(2, 0));
        due.thrown("no ENTRY, no SPAN", INDEX, y -> y.set(3, 6));
    }

    private void entry() {
        says(ENTRY, "Returns its TEXT.");
        Spanledger x = ledgerOfMany(FULL);
        Put.most(x, 0);
        Put.least(x, 1);
        x.nanos(2, -1, 0);
        for (int at = 0; at < 4; at++) {
            x.set(at * 11 / 3, at);
        }
        due.answer("the most", x.entry(0), "4000000000000000000.999999999");
        due.answer("the least", x.entry(3), "-4000000000000000000.0");
        due.answer("a nano below", x.entry(7), "-1.999999999");
        due.answer("ZERO", x.entry(11), "0.0");
        says(ENTRY, "Throws `IndexOutOfBoundsException` if there is no such ENTRY");
        for (int count : new int[] {1, 2, 11, FULL}) {
            numbersFromZero("entry of " + count, count, INDEX, y -> clearAndPost(y, 1, count), Spanledger::entry);
        }
        due.thrown("entry of none", INDEX, Spanledger::clear, y -> y.entry(0));
        due.thrown("entry that is taken", INDEX, Spanledger::take, y -> y.entry(2));
    }

    private void place() {
        says(PLACE, "Returns the first ENTRY that is ALIKE with it; NONE.");
        Spanledger x = ledgerOf(5, 4, 5, 0, 4, -1, 7, 8, 9, 10, 11, 12);
        x.nanos(1, 5, 0);
        x.nanos(2, 4, 0);
        x.nanos(3, 12, 0);
        x.nanos(4, -1, 0);
        x.nanos(5, 6, 0);
        due.answer("the first of all", x.place(1), 0);
        due.answer("the first of two", x.place(2), 1);
        due.answer("the last of all", x.place(3), 11);
        due.answer("a nano below", x.place(4), 5);
        due.answer("ZERO", x.place(0), 3);
        due.answer("a nano beside others", x.place(5), NONE);
        x.secondsAnd(5, 1, 0, 5, 0);
        due.answer("its REST alone", x.place(5), NONE);
        x.take();
        due.answer("one that is taken", x.place(3), NONE);
        x.clear();
        due.answer("in an empty ledger", x.place(0), NONE);
        says(PLACE, NO_SPAN);
        numbersFromZero("place", SPANS, INDEX, Spanledger::place);
        numbersFromZero("place in an empty ledger", SPANS, INDEX, Spanledger::clear, Spanledger::place);
    }

    private void sum() {
        says(SUM, "A SPAN becomes the sum of all ENTRIES: from ZERO on longer by one behind the other.");
        Spanledger x = Due.furnished();
        x.clear();
        due.answer("of none", x.sum(0) + " " + x.text(0), "0 0.0");
        x.post(1);
        due.answer("of one", x.sum(0) + " " + x.text(0), "-1 -7001.991100000");
        due.answer("of one, where something was", x.sum(3) + " " + x.text(3), "-1 -7001.991100000");
        Spanledger full = ledgerOfMany(FULL);
        due.answer("of twelve", full.sum(5) + " " + full.text(5), "1 0.78");
        due.answer("the ledger stays", full.house(0) + " " + full.entry(11), "12 0.12");
        full.take();
        due.answer("of what is left", full.sum(5) + " " + full.text(5), "1 0.66");
        Spanledger seconds = ledgerOf(999_999_999, 1, -1);
        due.answer("across a second", seconds.sum(0) + " " + seconds.text(0), "1 0.999999999");
        says(SUM, NO_SPAN);
        numbersFromZero("sum", SPANS, INDEX, Spanledger::sum);
        numbersFromZero("sum that does not FIT", SPANS, INDEX, LedgerBounds::postANanoTooMuch, Spanledger::sum);
    }

    /** The most, a nano that is too much, and a nano less, with which all together would FIT. */
    private static void postANanoTooMuch(Spanledger x) {
        Put.most(x, 0);
        x.nanos(1, 1, 0);
        x.nanos(2, -1, 0);
        clearAndPost(x, 0, 1);
        x.post(1);
        x.post(2);
    }

    private static void postANanoTooLittle(Spanledger x) {
        Put.least(x, 0);
        x.nanos(1, -1, 0);
        x.nanos(2, 1, 0);
        clearAndPost(x, 0, 1);
        x.post(1);
        x.post(2);
    }

    private void sumAtTheBounds() {
        says(SUM, "Returns its SIGN then; REFUSED if one of these sums does not FIT.");
        Spanledger x = new Spanledger();
        Put.span(x, 0, Put.MOST_SECONDS, 999_999_998);
        x.nanos(1, 1, 0);
        x.nanos(2, -1, 0);
        x.post(0);
        due.answer("a nano less than the most", x.sum(5) + " " + x.text(5), "1 4000000000000000000.999999998");
        x.post(1);
        due.answer("the most", x.sum(5) + " " + x.text(5), "1 4000000000000000000.999999999");
        x.post(2);
        due.answer("over the most and back", x.sum(5) + " " + x.text(5), "1 4000000000000000000.999999998");
        x.clear();
        Put.span(x, 0, -Put.MOST_SECONDS, 1);
        x.post(0);
        due.answer("a nano more than the least", x.sum(5) + " " + x.text(5), "-1 -4000000000000000000.1");
        x.post(2);
        due.answer("the least", x.sum(5) + " " + x.text(5), "-1 -4000000000000000000.0");
        x.negate(5);
        x.set(1, 5);
        due.answer("a nano above the least, and the most seconds", x.sum(4) + " " + x.text(4), "1 0.1");
        x.post(2);
        due.answer("ZERO", x.sum(4) + " " + x.text(4), "0 0.0");
    }

    private void sumRefused() {
        says(SUM, "Returns its SIGN then; REFUSED if one of these sums does not FIT.");
        due.refused("a sum on the way, all together would FIT", LedgerBounds::postANanoTooMuch, y -> y.sum(3));
        due.refused("one below on the way", LedgerBounds::postANanoTooLittle, y -> y.sum(3));
        due.refused("the last sum", y -> { postANanoTooMuch(y); y.take(); }, y -> y.sum(3));
        due.refused("the last sum below", y -> { postANanoTooLittle(y); y.take(); }, y -> y.sum(3));
        due.refused("into a SPAN that is posted", LedgerBounds::postANanoTooMuch, y -> y.sum(0));
        due.refused("twelve times the most", y -> { Put.most(y, 0); clearAndPost(y, 0, FULL); }, y -> y.sum(5));
        due.refused("twelve times the least", y -> { Put.least(y, 0); clearAndPost(y, 0, FULL); }, y -> y.sum(5));
        due.refused("the twelfth alone", y -> {
            clearAndPost(y, 5, 11);
            y.nanos(1, 1, 0);
            y.set(0, 1);
            Put.most(y, 0);
            y.post(0);
        }, y -> y.sum(5));
        Spanledger x = new Spanledger();
        postANanoTooMuch(x);
        x.sort();
        due.answer("in another order all FIT", x.sum(3) + " " + x.text(3) + " " + x.house(1),
                "1 4000000000000000000.999999999 0");
    }

    private void steps() {
        says(STEPS, "Returns how many pairs of ENTRIES that are next to each other stand in the right order (the first "
                + "one not greater).");
        due.answer("of none", ledgerOf().steps(), 0);
        due.answer("of one", ledgerOf(7).steps(), 0);
        due.answer("of two, a nano up", ledgerOf(7, 8).steps(), 1);
        due.answer("of two that are ALIKE", ledgerOf(7, 7).steps(), 1);
        due.answer("of two, a nano down", ledgerOf(8, 7).steps(), 0);
        due.answer("of two across ZERO", ledgerOf(-1, 0).steps(), 1);
        due.answer("of two across ZERO down", ledgerOf(0, -1).steps(), 0);
        due.answer("of eleven up", ledgerOfMany(11).steps(), 10);
        due.answer("of twelve up", ledgerOfMany(FULL).steps(), 11);
        due.answer("of twelve, the last one down", ledgerOf(1, 2, 3, 4, 5, 6, 7, 8, 9, 10, 11, 0).steps(), 10);
        due.answer("of twelve, the first one up", ledgerOf(12, 1, 2, 3, 4, 5, 6, 7, 8, 9, 10, 11).steps(), 10);
        due.answer("of twelve down", ledgerOf(12, 11, 10, 9, 8, 7, 6, 5, 4, 3, 2, 1).steps(), 0);
        Spanledger taken = ledgerOf(1, 2, 3);
        taken.take();
        due.answer("of what is left", taken.steps(), 1);
    }
}
