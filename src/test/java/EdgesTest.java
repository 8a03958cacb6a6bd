import java.io.IOException;
import java.nio.file.Path;

/**
 * Every sentence of the document with the cases at its edges: the last value that is taken and the first that is not,
 * nothing at all and as much as there is room for, calls that are refused. It fails where a sentence has no case.
 */
public final class EdgesTest {
    private EdgesTest() {
    }

    public static void main(String[] args) throws IOException {
        Cases cases = new Cases(Path.of(args.length > 0 ? args[0] : "../shared/DOC.md"));
        new EdgesOfText(cases).all();
        new EdgesOfPlaces(cases).all();
        new EdgesOfWays(cases).all();
        new EdgesOfUse(cases).all();
        if (cases.finish() != 0) System.exit(1);
    }
}
