import java.io.IOException;

/** Every sentence of the document, from "Terms" to "Promise 20", with a test of its own. */
public final class SentenceTest {
    public static void main(String[] args) throws IOException {
        Sentences said = new Sentences();
        new BookSentences(said).walk();
        new WaySentences(said).walk();
        new FuelSentences(said).walk();
        new CallSentences(said).walk();
        said.close();
    }
}
