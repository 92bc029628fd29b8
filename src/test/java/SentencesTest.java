import java.nio.file.Path;

/** Every sentence of 'Terms' and of the promises, at the edges that it names. */
public final class SentencesTest {
    private static final int CALLS = 512;

    public static void main(String[] args) throws Exception {
        Sentences s = new Sentences(Path.of(System.getProperty("doc", "../shared/DOC.md")));
        SheetEdges.all(s);
        ChartEdges.all(s);
        DrawingEdges.all(s);
        RuleEdges.all(s);
        BookEdges.all(s);
        AskedEdges.all(s);
        RefusalEdges.all(s);
        lastCall(s);
        s.end();
    }

    private static void lastCall(Sentences s) {
        s.name("What it is", "An object is used for at most 512 calls after it has been made;");
        SandDots x = new SandDots();
        for (int call = 1; call <= CALLS; call++) {
            s.due("call " + call, x.chart(65536 - call), call == 1 ? 0 : 65536 - call + 1);
        }
        SandDots y = new SandDots();
        for (int call = 1; call < CALLS; call++) {
            y.ask(call % 16, call % 2);
        }
        s.due("the last call, behind 511 asks", y.ask(0, 0), 108);
    }
}
