import java.io.IOException;
import java.nio.file.Path;

/** Each sentence of the document's terms and promises, with the edges that it names. */
public final class SentencesTest {
    public static void main(String[] args) throws IOException {
        Sentences s = new Sentences(Path.of("../shared/DOC.md"));
        ActionSentences.tell(s);
        OrderSentences.tell(s);
        UndoSentences.tell(s);
        PositionSentences.tell(s);
        AccountSentences.tell(s);
        LimitSentences.tell(s);
        s.end();
    }
}
