import java.nio.file.Path;

/** The boundary cases that the document's sentences name, sentence by sentence. */
public final class BoundaryTest {
    public static void main(String[] args) throws Exception {
        Due due = new Due(Path.of("../shared/DOC.md"));
        new LatticeBounds(due).run();
        new TextBounds(due).run();
        new GrainBounds(due).run();
        new HandBounds(due).run();
        new TapeBounds(due).run();
        new RefusalBounds(due).run();
        if (!due.end()) {
            System.exit(1);
        }
    }
}
