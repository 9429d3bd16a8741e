/** Each sentence of the document that names a boundary: calls on both sides of it. All sentences must be named. */
public final class BoundariesTest {
    public static void main(String[] args) throws Exception {
        Check check = new Check("BoundariesTest");
        Sentences said = new Sentences(check);
        new OrderBoundaries(said).all();
        new SheetBoundaries(said).all();
        new MakingBoundaries(said).all();
        new BoxBoundaries(said).all();
        new SpaceBoundaries(said).all();
        new RefusalBoundaries(said).all();
        said.end();
        check.end();
    }
}
