/**
 * Each sentence of the document that names a boundary case has a test of its own here, named by the
 * promise and the sentence; the sentences are compared with ../shared/DOC.md, so that none is left out.
 */
public final class BoundariesTest {
    public static void main(String[] args) {
        ConventionBoundaries.test();
        TargetBoundaries.test();
        FileBoundaries.test();
        ReachBoundaries.test();
        RebuildBoundaries.test();
        ShardBoundaries.test();
        SavingBoundaries.test();
        Sentence.allAreHeld();
        Script.end();
    }
}
