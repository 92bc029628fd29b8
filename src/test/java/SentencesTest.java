import java.nio.file.Files;
import java.nio.file.Path;

/** Every sentence of the document, from its first line on, at the edges that it names. */
public final class SentencesTest {
    public static void main(String[] args) throws Exception {
        Sentences s = new Sentences(Path.of(System.getProperty("doc", "../shared/DOC.md")));
        OpeningEdges.all(s);
        FaceEdges.all(s, Files.readString(Path.of(System.getProperty("source", "src/main/java/SandDots.java"))));
        SheetEdges.all(s);
        ChartEdges.all(s);
        DrawingEdges.all(s);
        RuleEdges.all(s);
        BookEdges.all(s);
        AskedEdges.all(s);
        RefusalEdges.all(s);
        s.end();
    }
}
