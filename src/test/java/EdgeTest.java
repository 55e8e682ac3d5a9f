/** Each sentence of the document that names an edge has a test of its own, which quotes it. */
public final class EdgeTest extends Edges {
    public static void main(String[] args) {
        LandEdges.run();
        TextEdges.run();
        MonthEdges.run();
        RestEdges.run();
        PriceEdges.run();
        RefusedEdges.run();
        tellUnquoted();
        finish("each sentence has its test, and holds");
    }
}
