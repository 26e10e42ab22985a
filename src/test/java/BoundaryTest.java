/** Each sentence of the document by its edges; at the end none may be without a test. */
public final class BoundaryTest {
    public static void main(String[] args) {
        WholeBoundaries.run();
        TermsBoundaries.run();
        SaleBoundaries.run();
        OrdersBoundaries.run();
        PaymentTermsBoundaries.run();
        StockPromisesBoundaries.run();
        SalePromisesBoundaries.run();
        PaymentPromisesBoundaries.run();
        ShelfPromisesBoundaries.run();
        Checks.allSentencesHeld();
        Checks.end("BoundaryTest");
    }
}
