/** Each sentence of the document that names a boundary case, at the boundary and on both sides of it. */
public final class BoundariesTest {
    private BoundariesTest() { }

    public static void main(String[] args) {
        BoundsOfCoast.all();
        BoundsOfDays.all();
        BoundsOfSightings.all();
        BoundsOfGiving.all();
        BoundsOfPast.all();
        Bounds.everyNumberWasQuoted();
        if (Bounds.end() != 0) System.exit(1);
    }
}
