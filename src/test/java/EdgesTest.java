/** Every sentence of the document, each boundary of it apart, with a test of its own that bears the sentence as its name. */
public final class EdgesTest {
    public static void main(String[] args) {
        FirstSentences.all();
        EdgesOfGround.all();
        EdgesOfShield.all();
        EdgesOfLine.all();
        EdgesOfHouses.all();
        EdgesOfStuff.all();
        EdgesOfContract.all();
        EdgesOfExceptions.all();
        Sentence.end();
        Check.end();
    }
}
