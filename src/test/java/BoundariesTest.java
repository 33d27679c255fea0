/** Each sentence of the document that names a boundary case, by a test of its own that quotes it. */
public final class BoundariesTest {
    public static void main(String[] args) {
        WorkBoundaries.run();
        MeshBoundaries.run();
        BeatsBoundaries.run();
        ChecksBoundaries.run();
        WholeBoundaries.run();
        everyAnswerIsQuoted();
        Due.end("BoundariesTest");
    }

    private static void everyAnswerIsQuoted() {
        for (String line : Doc.answersNotQuoted()) {
            Due.same("a test of \"" + line + "\"", "none", "one");
        }
    }
}
