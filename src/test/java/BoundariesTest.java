/**
 * Every sentence of the document's Description and promises, each with answers of its own: at the boundary that
 * it names, just inside and just outside; for a refused call and for an exception, that nothing else has changed.
 */
public final class BoundariesTest {
    private static final Due due = new Due("BoundariesTest");

    public static void main(String[] args) {
        Sentences document = new Sentences(due);
        Bounds[] all = {
            new DescriptionBounds(due, document), new SpanBounds(due, document), new TotalBounds(due, document),
            new MadeBounds(due, document), new AmountBounds(due, document), new TurnBounds(due, document),
            new AskBounds(due, document), new LedgerBounds(due, document), new WholeBounds(due, document),
        };
        for (Bounds each : all) {
            each.run();
        }
        document.close();
        due.close();
    }
}
