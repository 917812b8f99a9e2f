/** A test of its own for each sentence of the document that names a boundary case, promise by promise. */
public final class EdgesTest {
    public static void main(String[] args) {
        TextEdges.run();
        ViewEdges.run();
        StepEdges.run();
        ActionEdges.run();
        LineEdges.run();
        ForecastEdges.run();
        ScriptEdges.run();
        SaveEdges.run();
        ExceptionEdges.run();
        Sentence.noneIsMissing();
        Check.end();
    }
}
