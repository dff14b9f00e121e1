import java.lang.reflect.Field;

/**
 * Promise 49: no run of calls makes isSound() answer false, for geometry says that all of it always holds. So these
 * tests spoil what an object has found, from within and for one clause of the promise at a time, and look for false.
 * That the graph 'r' is in 'g' can't be spoilt: both are told from the places alone each time.
 */
public final class SoundTest {
    private static final int[][] SQUARE = {{0, 0}, {10, 0}, {10, 10}, {0, 10}};
    private static final int[][] KITE = {{0, 0}, {30, 0}, {0, 30}, {40, 40}};
    private static int tests;
    private static int wrong;

    private SoundTest() {
    }

    public static void main(String[] args) throws ReflectiveOperationException {
        aPointWithinACircle();
        aTriangleTooFew();
        anEdgeTooMany();
        aTreeBesideTheNeighbours();
        aTreeBesideTheGraphR();
        System.out.println("SoundTest: " + tests + " tests, " + wrong + " wrong");
        if (wrong != 0) {
            System.exit(1);
        }
    }

    private static void aPointWithinACircle() throws ReflectiveOperationException {
        Nearestward ground = soundWith(KITE);
        intsOf(ground, "ground", "xs")[3] = 30;
        intsOf(ground, "ground", "ys")[3] = 29;
        isSpoilt("a point within a circle", ground);
    }

    private static void aTriangleTooFew() throws ReflectiveOperationException {
        Nearestward ground = soundWith(KITE);
        Object triangles = partOf(ground, "triangles");
        open(triangles, "count").setInt(triangles, 1);
        isSpoilt("a triangle too few", ground);
    }

    private static void anEdgeTooMany() throws ReflectiveOperationException {
        Nearestward ground = soundWith(SQUARE);
        setEdge(intsOf(ground, "triangles", "neighbours"), 1, 3, true);
        isSpoilt("an edge too many", ground);
    }

    private static void aTreeBesideTheNeighbours() throws ReflectiveOperationException {
        Nearestward ground = soundWith(SQUARE);
        int[] neighbours = intsOf(ground, "triangles", "neighbours");
        setEdge(neighbours, 0, 1, false);
        setEdge(neighbours, 1, 3, true);
        isSpoilt("a tree beside the neighbours", ground);
    }

    private static void aTreeBesideTheGraphR() throws ReflectiveOperationException {
        Nearestward ground = soundWith(SQUARE);
        int[] tree = intsOf(ground, "graphs", "tree");
        setEdge(tree, 1, 2, false);
        setEdge(tree, 0, 2, true);
        isSpoilt("a tree beside the graph r", ground);
    }

    private static Nearestward soundWith(int[][] places) {
        Nearestward ground = new Nearestward();
        for (int[] place : places) {
            ground.addPoint(place[0], place[1]);
        }
        expect(ground.isSound(), "it is not sound at first");
        return ground;
    }

    /** All is found again behind a change of places, so that nothing stays spoilt then. */
    private static void isSpoilt(String name, Nearestward ground) {
        tests++;
        expect(!ground.isSound(), name + ": isSound() = true, due is false");
        ground.move(0, 0, -1);
        expect(ground.isSound(), name + ": it is not sound behind a move");
    }

    private static void setEdge(int[] edges, int one, int other, boolean there) {
        edges[one] = there ? edges[one] | 1 << other : edges[one] & ~(1 << other);
        edges[other] = there ? edges[other] | 1 << one : edges[other] & ~(1 << one);
    }

    private static int[] intsOf(Nearestward ground, String part, String name) throws ReflectiveOperationException {
        Object holder = partOf(ground, part);
        return (int[]) open(holder, name).get(holder);
    }

    private static Object partOf(Nearestward ground, String part) throws ReflectiveOperationException {
        return open(ground, part).get(ground);
    }

    private static Field open(Object holder, String name) throws ReflectiveOperationException {
        Field field = holder.getClass().getDeclaredField(name);
        field.setAccessible(true);
        return field;
    }

    private static void expect(boolean holds, String otherwise) {
        if (!holds) {
            wrong++;
            System.out.println(otherwise);
        }
    }
}
