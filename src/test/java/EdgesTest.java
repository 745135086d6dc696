/**
 * The edges of every sentence of the document, promise by promise: what is smallest, largest, just
 * beyond, empty, full or refused. A check that fails tells the promise and the sentence it is for.
 */
public final class EdgesTest {
    public static void main(String[] args) {
        EdgesOfTracks.check();
        EdgesOfDriving.check();
        EdgesOfLaps.check();
        EdgesOfStore.check();
        EdgesOfSeasons.check();
        EdgesOfFigures.check();
        EdgesOfExceptions.check();
        Document.allNamed();
        Check.end("EdgesTest");
    }
}
