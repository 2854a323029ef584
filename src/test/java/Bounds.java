import java.util.function.Consumer;

/** Tests of boundary cases: for each sentence what lies at the boundary, just inside and just outside. */
abstract class Bounds {
    static final Class<IndexOutOfBoundsException> INDEX = IndexOutOfBoundsException.class;
    static final Class<IllegalArgumentException> ARGUMENT = IllegalArgumentException.class;
    static final Class<IllegalStateException> STATE = IllegalStateException.class;

    static final int NONE = -1;
    static final int SPANS = 6;
    static final int MOMENTS = 4;
    static final int FULL = 12;

    static final String NO_SPAN = "Throws `IndexOutOfBoundsException` if there is no such SPAN";
    static final String NO_SPAN_OF_BOTH = "Throws `IndexOutOfBoundsException` if there is no such SPAN (both)";

    /** A call that is told some number. */
    interface Numbered {
        Object on(Spanledger x, int number);
    }

    final Due due;
    private final Sentences document;

    Bounds(Due due, Sentences document) {
        this.due = due;
        this.document = document;
    }

    abstract void run();

    /** The answers that follow hold this sentence of the document. */
    final void says(String heading, String words) {
        document.says(heading, words);
    }

    final void numbersFromZero(String call, int count, Class<? extends RuntimeException> kind, Numbered act) {
        numbersFromZero(call, count, kind, x -> { }, act);
    }

    /** The first and the last number are taken; those beside them, and those far off, are not. */
    final void numbersFromZero(String call, int count, Class<? extends RuntimeException> kind,
            Consumer<Spanledger> before, Numbered act) {
        for (int number : new int[] {0, count - 1}) {
            Spanledger x = Due.furnished();
            before.accept(x);
            boolean isThrown = Due.outcomeOf(y -> act.on(y, number), x) instanceof Class;
            due.answer(call + " takes " + number, !isThrown, true);
        }
        for (int number : new int[] {-1, count, Integer.MIN_VALUE, Integer.MAX_VALUE}) {
            due.thrown(call + " of " + number, kind, before, y -> act.on(y, number));
        }
    }

    static void clearAndPost(Spanledger x, int at, int times) {
        x.clear();
        for (int i = 0; i < times; i++) {
            x.post(at);
        }
    }

    static String entriesOf(Spanledger x) {
        StringBuilder all = new StringBuilder();
        for (int i = 0; i < x.house(0); i++) {
            all.append(i == 0 ? "" : " ").append(x.entry(i));
        }
        return all.toString();
    }
}
