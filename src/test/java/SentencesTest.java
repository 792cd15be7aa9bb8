import java.util.List;

/** All promises, sentence by sentence: a test of its own for all words of the document, above all for each edge. */
public final class SentencesTest {
    public static void main(String[] args) {
        ValleyWords.all();
        LawWords.all();
        WayWords.all();
        ThrowsWords.all();
        LipWords.all();
        BackWords.all();
        CallWords.all();
        AskWords.all();
        Check.same("words of the document without a test of their own", Doc.unquoted(), List.of());
        Check.finish();
    }
}
