/** Each sentence of the document that names an edge, promise by promise. */
public final class EdgesTest {
    private EdgesTest() {
    }

    public static void main(String[] args) {
        Edge edge = new Edge("EdgesTest");
        RoomEdges.rows(edge);
        SightEdges.rows(edge);
        TextEdges.rows(edge);
        HouseEdges.rows(edge);
        GridEdges.rows(edge);
        JoinsEdges.rows(edge);
        BookEdges.rows(edge);
        edge.end();
    }
}
