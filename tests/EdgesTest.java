/** Each sentence of the document that names a boundary case, with a test of its own. */
public final class EdgesTest {
    public static void main(String[] args) throws Exception {
        Check book = new Check("EdgesTest");
        Edges e = new Edges(book);
        EdgeTexts.hold(e);
        EdgeRiders.hold(e);
        EdgeRides.hold(e);
        EdgePlaces.hold(e);
        e.close();
        book.close();
    }
}
