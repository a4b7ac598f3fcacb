import java.nio.file.Path;

/** The document once from its first line to its last, sentence by sentence, in its order. */
public final class DocumentTest {
    public static void main(String[] args) throws Exception {
        Sentences.open(Path.of("../shared/DOC.md"));
        DocumentTerms.all();
        DocumentText.all();
        DocumentLine.all();
        DocumentTried.all();
        DocumentHeads.all(Path.of(args.length > 0 ? args[0] : "src/main/java/EdgeEchoes.java"));
        DocumentPromises.all();
        Sentences.close();
        Due.end();
    }
}
