import java.io.IOException;

/**
 * Runs the tests of the sentences with a boundary in them, and looks whether they have all that the document's
 * own lines name. With a word behind the first argument, such as promise08, it runs those tests alone that begin so.
 */
public final class EdgesTest {
    private static final Class<?>[] TESTS = {PointEdges.class, NearnessEdges.class, TriangleEdges.class, ShapeEdges.class,
        ClusterEdges.class};

    private EdgesTest() {
    }

    public static void main(String[] args) throws IOException {
        boolean all = args.length < 2;
        Runs runs = new Runs();
        for (Class<?> tests : TESTS) {
            runs.runAll(tests, all ? "promise" : args[1]);
        }
        if (all) {
            DocEdges.lookThrough(runs);
        }
        runs.finish("EdgesTest");
    }
}
