/** Every sentence of the document that names a boundary case has a test of its own, which names it. */
public final class EdgesTest {
    public static void main(String[] args) {
        TimeEdges.run();
        KindEdges.run();
        QuotaEdges.run();
        PromiseEdges.run();
        Doc.dueWhole();
        Check.end();
    }
}
