/** Every sentence of the document, named by a test of its bounds; see Edges. */
final class EdgesTest {
    public static void main(String[] args) throws Exception {
        Edges edges = new Edges(args[0]);
        new EdgesOfWhole(edges).run();
        new EdgesOfTerms(edges).run();
        new EdgesOfLaws(edges).run();
        new EdgesOfText(edges).run();
        new EdgesOfShades(edges).run();
        new EdgesOfSeen(edges).run();
        new EdgesOfWould(edges).run();
        new EdgesOfKept(edges).run();
        edges.close();
    }
}
