import java.io.IOException;

/** Every sentence of the document that names a boundary case, each with a test of its own. */
public final class BoundaryTests {
    public static void main(String[] args) throws IOException {
        TermBoundaries.check();
        ActBoundaries.check();
        TextBoundaries.check();
        AnswerBoundaries.check();
        if (BoundaryCheck.close() != 0) {
            System.exit(1);
        }
    }
}
