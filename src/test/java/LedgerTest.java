/** Promises 42 to 51: the ledger. */
public final class LedgerTest {
    private static final Class<IndexOutOfBoundsException> INDEX = IndexOutOfBoundsException.class;
    private static final Class<IllegalStateException> STATE = IllegalStateException.class;

    private static final Due due = new Due("LedgerTest");

    public static void main(String[] args) {
        post();
        take();
        clear();
        sort();
        sortEveryOrderOfFive();
        fetch();
        set();
        place();
        sum();
        sumRefused();
        steps();
        due.close();
    }

    /** A ledger with these numbers of nanos, one behind the other; the SPANS are ZERO. */
    private static Spanledger ledgerOf(int... nanos) {
        Spanledger x = new Spanledger();
        for (int each : nanos) {
            x.nanos(0, each, 0);
            x.post(0);
        }
        x.zero(0);
        return x;
    }

    private static String entriesOf(Spanledger x) {
        StringBuilder all = new StringBuilder();
        for (int i = 0; i < x.house(0); i++) {
            all.append(i == 0 ? "" : " ").append(x.entry(i));
        }
        return all.toString();
    }

    private static void fill(Spanledger x) {
        for (int i = x.house(0); i < 12; i++) {
            x.post(1);
        }
    }

    private static void post() {
        Spanledger x = new Spanledger();
        for (int i = 1; i <= 12; i++) {
            x.nanos(i % 6, i, 0);
            due.answer("post", x.post(i % 6), i);
        }
        due.answer("twelve entries", entriesOf(x), "0.1 0.2 0.3 0.4 0.5 0.6 0.7 0.8 0.9 0.10 0.11 0.12");
        due.answer("the span stays", x.text(0), "0.12");
        x.seconds(0, 9, 0);
        due.answer("an entry is what the span was", x.entry(11), "0.12");
        due.thrown("post on a full ledger", STATE, LedgerTest::fill, y -> y.post(0));
        due.thrown("post of no span on a full ledger", INDEX, LedgerTest::fill, y -> y.post(6));
        due.thrown("post(6)", INDEX, y -> y.post(6));
        due.thrown("post(-1)", INDEX, y -> y.post(-1));
    }

    private static void take() {
        Spanledger x = ledgerOf(1, 2, 3);
        due.answer("take", x.take() + ": " + entriesOf(x), "2: 0.1 0.2");
        due.answer("take", x.take() + ": " + entriesOf(x), "1: 0.1");
        x.seconds(3, 7, 0);
        due.answer("post behind what is left", x.post(3) + ": " + entriesOf(x), "2: 0.1 7.0");
        x.take();
        due.answer("take the last", x.take() + ": " + entriesOf(x), "0: ");
        due.thrown("take from an empty ledger", STATE, Spanledger::clear, Spanledger::take);
        Spanledger full = Due.furnished();
        fill(full);
        due.answer("take from a full ledger", full.take(), 11);
        due.answer("post again", full.post(0), 12);
    }

    private static void clear() {
        Spanledger x = ledgerOf(1, 2, 3);
        due.answer("clear", x.clear() + ": " + entriesOf(x), "3: ");
        due.answer("clear an empty one", x.clear(), 0);
        due.answer("post after it", x.post(0) + ": " + entriesOf(x), "1: 0.0");
    }

    private static void sort() {
        Spanledger x = Due.furnished();
        x.post(3);
        x.post(5);
        x.post(1);
        due.answer("sort", x.sort(), 6);
        due.answer("sorted", entriesOf(x),
                "-7001.991100000 -7001.991100000 -1.999999999 0.0 12.345000000 432000000000000.0");
        due.answer("sort again", x.sort(), 6);
        due.answer("the spans stay", x.text(0) + " " + x.text(1), "12.345000000 -7001.991100000");
        x.zero(1);
        due.answer("entries lie apart from spans", x.entry(0), "-7001.991100000");
        Spanledger full = ledgerOf(7, -3, 12, 0, 5, 5, -9, 1, 11, -3, 2, 4);
        due.answer("sort twelve", full.sort(), 12);
        due.answer("sorted twelve", entriesOf(full),
                "-1.999999991 -1.999999997 -1.999999997 0.0 0.1 0.2 0.4 0.5 0.5 0.7 0.11 0.12");
        full.take();
        full.take();
        due.answer("what is taken is the greatest", full.sort() + " " + full.entry(9), "10 0.7");
        due.answer("sort one", ledgerOf(3).sort(), 1);
        due.answer("sort none", new Spanledger().sort(), 0);
    }

    private static void sortEveryOrderOfFive() {
        for (int code = 0; code < 3125; code++) {
            int[] nanos = new int[5];
            int left = code;
            for (int i = 0; i < 5; i++) {
                nanos[i] = left % 5;
                left /= 5;
            }
            Spanledger x = ledgerOf(nanos);
            java.util.Arrays.sort(nanos);
            due.answer("sort of five", x.sort(), 5);
            due.answer("sorted", entriesOf(x), entriesOf(ledgerOf(nanos)));
            due.answer("steps of a sorted ledger", x.steps(), 4);
        }
    }

    private static void fetch() {
        Spanledger x = Due.furnished();
        due.answer("fetch above", x.fetch(5, 0) + " " + x.text(5), "1 12.345000000");
        due.answer("fetch below", x.fetch(5, 1) + " " + x.text(5), "-1 -7001.991100000");
        due.answer("fetch a nano below", x.fetch(0, 2) + " " + x.text(0), "-1 -1.999999999");
        due.answer("the entry stays", entriesOf(x), "12.345000000 -7001.991100000 -1.999999999");
        x.seconds(5, 8, 0);
        due.answer("the span is its own", x.entry(1), "-7001.991100000");
        x.zero(4);
        x.post(4);
        due.answer("fetch ZERO", x.fetch(5, 3) + " " + x.text(5), "0 0.0");
        due.thrown("fetch at 6", INDEX, y -> y.fetch(6, 0));
        due.thrown("fetch at -1", INDEX, y -> y.fetch(-1, 0));
        due.thrown("fetch entry 3 of three", INDEX, y -> y.fetch(0, 3));
        due.thrown("fetch entry -1", INDEX, y -> y.fetch(0, -1));
        due.thrown("fetch entry 12 of twelve", INDEX, LedgerTest::fill, y -> y.fetch(0, 12));
        due.thrown("fetch of an empty ledger", INDEX, Spanledger::clear, y -> y.fetch(0, 0));
    }

    private static void set() {
        Spanledger x = Due.furnished();
        due.answer("set one above", x.set(0, 2) + " " + x.entry(0), "1 -1.999999999");
        due.answer("set one below", x.set(1, 5) + " " + x.entry(1), "-1 0.0");
        due.answer("set one that is ZERO", x.set(1, 0) + " " + x.entry(1), "0 12.345000000");
        due.answer("the span stays", x.text(0), "12.345000000");
        x.zero(0);
        due.answer("the entry is its own", x.entry(1), "12.345000000");
        due.answer("the others stay", entriesOf(x), "-1.999999999 12.345000000 -1.999999999");
        due.thrown("set at 6", INDEX, y -> y.set(0, 6));
        due.thrown("set at -1", INDEX, y -> y.set(0, -1));
        due.thrown("set entry 3 of three", INDEX, y -> y.set(3, 0));
        due.thrown("set entry -1", INDEX, y -> y.set(-1, 0));
        due.thrown("set entry 12 of twelve", INDEX, LedgerTest::fill, y -> y.set(12, 0));
        due.thrown("set in an empty ledger", INDEX, Spanledger::clear, y -> y.set(0, 0));
        due.thrown("entry 3 of three", INDEX, y -> y.entry(3));
        due.thrown("entry -1", INDEX, y -> y.entry(-1));
        due.thrown("entry 12 of twelve", INDEX, LedgerTest::fill, y -> y.entry(12));
        due.thrown("entry 0 of none", INDEX, Spanledger::clear, y -> y.entry(0));
    }

    private static void place() {
        Spanledger x = ledgerOf(4, -1, 4, 0, -1);
        x.nanos(0, 4, 0);
        x.nanos(1, -1, 0);
        x.nanos(2, 5, 0);
        due.answer("place of the first of two", x.place(0), 0);
        due.answer("place of another first of two", x.place(1), 1);
        due.answer("place of ZERO", x.place(3), 3);
        due.answer("place of none", x.place(2), -1);
        x.secondsAnd(2, 1, 0, 4, 0);
        due.answer("place by the rest alone", x.place(2), -1);
        x.take();
        x.take();
        due.answer("what is taken has no place", x.place(3), -1);
        due.answer("place in an empty ledger", new Spanledger().place(0), -1);
        due.thrown("place(6)", INDEX, y -> y.place(6));
        due.thrown("place(-1)", INDEX, y -> y.place(-1));
    }

    private static void sum() {
        Spanledger x = Due.furnished();
        due.answer("sum", x.sum(5) + " " + x.text(5), "-1 -6988.336099999");
        due.answer("the entries stay", entriesOf(x), "12.345000000 -7001.991100000 -1.999999999");
        due.answer("sum where something was", x.sum(3) + " " + x.text(3), "-1 -6988.336099999");
        x.clear();
        due.answer("sum of none", x.sum(3) + " " + x.text(3), "0 0.0");
        Spanledger most = new Spanledger();
        most.seconds(0, 4, 18);
        most.seconds(1, -4, 18);
        for (int i = 0; i < 6; i++) {
            most.post(0);
            most.post(1);
        }
        due.answer("sums at the bound", most.sum(2) + " " + most.text(2), "0 0.0");
        Spanledger one = new Spanledger();
        one.secondsAnd(0, 4, 18, 999999999, 0);
        one.post(0);
        due.answer("sum of the most", one.sum(2) + " " + one.text(2), "1 4000000000000000000.999999999");
        due.thrown("sum(6)", INDEX, y -> y.sum(6));
        due.thrown("sum(-1)", INDEX, y -> y.sum(-1));
    }

    private static void tooMuchThenBack(Spanledger x) {
        x.clear();
        x.secondsAnd(0, 4, 18, 999999999, 0);
        x.nanos(1, 1, 0);
        x.seconds(2, -4, 18);
        x.post(0);
        x.post(1);
        x.post(2);
    }

    private static void tooLittleThenBack(Spanledger x) {
        x.clear();
        x.seconds(0, -4, 18);
        x.nanos(1, -1, 0);
        x.post(0);
        x.post(1);
        x.negate(1);
        x.post(1);
    }

    private static void sumRefused() {
        due.refused("a sum on the way does not fit", LedgerTest::tooMuchThenBack, y -> y.sum(3));
        due.refused("a sum on the way does not fit below", LedgerTest::tooLittleThenBack, y -> y.sum(3));
        due.refused("the last sum does not fit", y -> { tooMuchThenBack(y); y.take(); }, y -> y.sum(4));
        Spanledger x = Due.furnished();
        tooMuchThenBack(x);
        x.sort();
        due.answer("in another order it fits", x.sum(3) + " " + x.text(3), "1 1.0");
    }

    private static void steps() {
        due.answer("steps of none", new Spanledger().steps(), 0);
        due.answer("steps of one", ledgerOf(3).steps(), 0);
        due.answer("steps rising", ledgerOf(1, 2, 3).steps(), 2);
        due.answer("steps falling", ledgerOf(3, 2, 1).steps(), 0);
        due.answer("steps of ALIKE ones", ledgerOf(3, 3, 3, 3).steps(), 3);
        due.answer("steps up and down", ledgerOf(1, -2, 3, 3, 0, 9, -9).steps(), 3);
        due.answer("steps of twelve", ledgerOf(1, 2, 3, 4, 5, 6, 7, 8, 9, 10, 11, 12).steps(), 11);
        Spanledger x = ledgerOf(1, 2, 3);
        x.take();
        due.answer("steps of what is left", x.steps(), 1);
    }
}
