/** The document sentence by sentence: each has a test of its own, and none is left without one. */
public final class DocumentTest {
    public static void main(String[] args) {
        Sentences sentences = new Sentences();
        Group[] groups = {
            new Terms1Constants(sentences), new Terms2Receiving(sentences), new Terms3Cycle(sentences),
            new StepAStop(sentences), new StepBRepair(sentences), new StepCExpect(sentences),
            new StepDDetect(sentences), new StepEEstimate(sentences), new StepFMode(sentences),
            new StepGCommand(sentences), new Promises(sentences),
        };
        for (Group group : groups) {
            group.run();
        }
        sentences.compareWithDocument();
        sentences.checks.end();
    }
}
