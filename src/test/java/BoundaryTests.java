/**
 * The boundary cases of the document: what is too small or too large, empty or full, what wraps
 * around, and what is refused. Each test names the promise and the sentence that it holds.
 */
public final class BoundaryTests extends Sentences {
    public static void main(String[] args) {
        NodeBoundaries.all();
        HoldingBoundaries.all();
        SettingBoundaries.all();
        RunBoundaries.all();
        demandTestsOfBoundaries();
        end("all boundary cases hold");
    }
}
