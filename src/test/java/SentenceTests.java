import java.io.IOException;

/** Each sentence of the document's terms and promises has a test of its own. */
public final class SentenceTests extends Sentences {
  private SentenceTests() {
  }

  public static void main(String[] args) throws IOException {
    readDocument();
    TermSentences.all();
    BookSentences.all();
    OrderSentences.all();
    ShelfSentences.all();
    if (!close()) System.exit(1);
  }
}
