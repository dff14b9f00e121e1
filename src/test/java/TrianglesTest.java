/** Promises 17 to 29: fat triangles, graphs, hulls, layers and depths. */
public final class TrianglesTest {
    private static final String SQUARE = "addPoint(0, 0) = 0; addPoint(10, 0) = 1; addPoint(10, 10) = 2; addPoint(0, 10) = 3;";
    private static final String LINE = "addPoint(5, 5) = 0; addPoint(-5, -5) = 1; addPoint(0, 0) = 2; addPoint(9, 9) = 3;";
    /** Twelve places on the circle of 25 round the middle, not in their order. */
    private static final String CIRCLE = "addPoint(0, 5) = 0; addPoint(5, 0) = 1; addPoint(-5, 0) = 2; addPoint(3, -4) = 3;"
            + "addPoint(0, -5) = 4; addPoint(3, 4) = 5; addPoint(4, 3) = 6; addPoint(-4, 3) = 7; addPoint(-3, 4) = 8;"
            + "addPoint(4, -3) = 9; addPoint(-3, -4) = 10; addPoint(-4, -3) = 11;";

    public static void main(String[] args) {
        Runs runs = new Runs();
        fatTriangles(runs);
        neighbours(runs);
        graphs(runs);
        hulls(runs);
        layersAndDepths(runs);
        runs.finish("TrianglesTest");
    }

    private static void fatTriangles(Runs runs) {
        runs.run("17: no triangles", "countTriangles() = 0; addPoint(0, 0) = 0; countTriangles() = 0; addPoint(1, 0) = 1;"
                + "countTriangles() = 0; addPoint(2, 0) = 2; countTriangles() = 0; addPoint(1, 1) = 3;"
                + "countTriangles() = 2; move(3, 50, 0) = 2402; countTriangles() = 0");
        runs.run("17, 18: a fan of twelve on a circle", CIRCLE + "countTriangles() = 10;"
                + "isTriangle(0, 8, 7) = true; isTriangle(0, 7, 2) = true; isTriangle(2, 0, 11) = true;"
                + "isTriangle(10, 11, 0) = true; isTriangle(0, 4, 10) = true; isTriangle(3, 4, 0) = true;"
                + "isTriangle(9, 0, 3) = true; isTriangle(0, 1, 9) = true; isTriangle(1, 6, 0) = true;"
                + "isTriangle(6, 5, 0) = true; isTriangle(0, 5, 1) = false; isTriangle(8, 7, 2) = false;"
                + "isTriangle(0, 5, 8) = false; countNeighbours(0) = 11; countNeighbours(5) = 2; countNeighbours(4) = 3;"
                + "remove(0) = 11; countTriangles() = 9; isTriangle(1, 6, 5) = true; isTriangle(1, 5, 8) = true;"
                + "countNeighbours(1) = 10; isSound() = true; addPoint(0, 0) = 0; countTriangles() = 11;"
                + "isTriangle(1, 6, 5) = false; isTriangle(0, 6, 5) = true; isTriangle(0, 5, 8) = true; isSound() = true");
        runs.run("18: the fan goes from the lowest number", "addPoint(10, 10) = 0; addPoint(10, 0) = 1; addPoint(0, 0) = 2;"
                + "addPoint(0, 10) = 3; isTriangle(0, 1, 2) = true; isTriangle(0, 2, 3) = true; isTriangle(0, 1, 3) = false;"
                + "isTriangle(1, 2, 3) = false; move(0, 10, 11) = 1; isTriangle(1, 2, 3) = true; isTriangle(0, 1, 3) = true;"
                + "isTriangle(0, 1, 2) = false; isTriangle(0, 2, 3) = false");
        runs.run("18: isTriangle", SQUARE + "isTriangle(2, 1, 0) = true; isTriangle(0, 0, 1) = false;"
                + "isTriangle(2, 2, 2) = false; isTriangle(0, 1, 4) = throws.IndexOutOfBoundsException;"
                + "isTriangle(4, 1, 0) = throws.IndexOutOfBoundsException;"
                + "isTriangle(0, -1, 2) = throws.IndexOutOfBoundsException; addPoint(9, 1) = 4; isTriangle(0, 1, 2) = false;"
                + "isTriangle(0, 1, 4) = true; remove(4) = 4; isTriangle(0, 1, 2) = true;"
                + "isTriangle(0, 1, 4) = throws.IndexOutOfBoundsException");
        runs.run("18: triangles that are no more", "addPoint(0, 0) = 0; addPoint(9, 0) = 1; addPoint(0, 9) = 2;"
                + "isTriangle(0, 1, 2) = true; move(2, 4, 0) = 97; isTriangle(0, 1, 2) = false; areNeighbours(0, 1) = false;"
                + "move(2, 4, 9) = 81; addPoint(4, 3) = 3; isTriangle(0, 1, 2) = false; isTriangle(0, 1, 3) = true;"
                + "isTriangle(1, 2, 3) = true; remove(2) = 3; isTriangle(0, 1, 3) = true; countTriangles() = 1;"
                + "addPoint(90, 90) = 2; isTriangle(0, 2, 3) = true; move(3, 4, -3) = 36; isTriangle(0, 2, 3) = false");
        runs.run("17: a point on the circle of two triangles side by side", "addPoint(-5, 0) = 0; addPoint(5, 0) = 1;"
                + "addPoint(0, 12) = 2; addPoint(0, -12) = 3; countTriangles() = 2; isTriangle(0, 1, 2) = true;"
                + "isTriangle(0, 1, 3) = true; areNeighbours(2, 3) = false");
    }

    private static void neighbours(Runs runs) {
        runs.run("19: areNeighbours", SQUARE + "areNeighbours(0, 1) = true; areNeighbours(1, 0) = true;"
                + "areNeighbours(2, 0) = true; areNeighbours(1, 3) = false; areNeighbours(3, 1) = false;"
                + "areNeighbours(0, 0) = false; areNeighbours(0, 4) = throws.IndexOutOfBoundsException;"
                + "areNeighbours(-1, 0) = throws.IndexOutOfBoundsException");
        runs.run("19: none on a line", LINE + "areNeighbours(0, 2) = false; areNeighbours(0, 3) = false;"
                + "countNeighbours(0) = 0");
        runs.run("20: countNeighbours", SQUARE + "countNeighbours(0) = 3; countNeighbours(1) = 2; countNeighbours(2) = 3;"
                + "countNeighbours(3) = 2; countNeighbours(4) = throws.IndexOutOfBoundsException;"
                + "countNeighbours(-1) = throws.IndexOutOfBoundsException; addPoint(5, 5) = 4; countNeighbours(4) = 4;"
                + "countNeighbours(0) = 3");
        runs.run("24: steps", "addPoint(0, 0) = 0; steps(0, 0) = 0; addPoint(10, 0) = 1;"
                + "steps(0, 1) = throws.NoSuchElementException; addPoint(20, 0) = 2; addPoint(5, 3) = 3; addPoint(15, 3) = 4;"
                + "addPoint(25, 3) = 5; steps(0, 1) = 1; steps(0, 2) = 2; steps(3, 5) = 2; steps(0, 5) = 3; steps(5, 0) = 3;"
                + "steps(4, 4) = 0; steps(0, 6) = throws.IndexOutOfBoundsException;"
                + "steps(-1, 0) = throws.IndexOutOfBoundsException");
        runs.run("24: steps on a line", LINE + "steps(0, 0) = 0; steps(0, 2) = throws.NoSuchElementException;"
                + "steps(0, 7) = throws.IndexOutOfBoundsException");
    }

    private static void graphs(Runs runs) {
        runs.run("21: each graph of three", "addPoint(0, 0) = 0; addPoint(10, 0) = 1; addPoint(4, 3) = 2;"
                + "isJoined('g', 0, 1) = false; isJoined('g', 0, 2) = true; isJoined('g', 1, 2) = true;"
                + "isJoined('r', 0, 1) = false; isJoined('n', 0, 1) = false; isJoined('n', 1, 2) = true;"
                + "isJoined('t', 0, 1) = false; isJoined('t', 1, 0) = false; isJoined('t', 2, 0) = true;"
                + "isJoined('t', 2, 1) = true; treeSum() = 70");
        runs.run("21: a point on the round of 'g' is not within", "addPoint(-5, 0) = 0; addPoint(5, 0) = 1;"
                + "addPoint(3, 4) = 2; isJoined('g', 0, 1) = true; isJoined('r', 0, 1) = false; move(2, 3, 3) = 1;"
                + "isJoined('g', 0, 1) = false; move(2, 0, 20) = 298; isJoined('g', 1, 0) = true; isJoined('r', 1, 0) = true");
        runs.run("21: a point as far as both is not nearer", "addPoint(0, 0) = 0; addPoint(5, 0) = 1; addPoint(3, 4) = 2;"
                + "isJoined('r', 0, 1) = true; isJoined('r', 0, 2) = true; isJoined('r', 1, 2) = true");
        runs.run("21: like near to the one end, or to the other one", "addPoint(0, 0) = 0; addPoint(10, 0) = 1;"
                + "addPoint(6, 8) = 2; isJoined('r', 0, 1) = true; isJoined('g', 0, 1) = true; move(2, 4, 8) = 4;"
                + "isJoined('r', 0, 1) = true; isJoined('r', 1, 0) = true; move(2, 5, 8) = 1; isJoined('r', 0, 1) = false");
        runs.run("21: 'n' by the lowest of like ones", "addPoint(0, 0) = 0; addPoint(5, 0) = 1; addPoint(-5, 0) = 2;"
                + "addPoint(9, 0) = 3; addPoint(-9, 0) = 4; isJoined('n', 0, 1) = true; isJoined('n', 0, 2) = false;"
                + "isJoined('n', 1, 3) = true; isJoined('n', 2, 4) = true; countJoined('n') = 3; countJoined('t') = 4;"
                + "countJoined('g') = 4; countJoined('r') = 4");
        runs.run("21: 'n' by the nearest one of either", "addPoint(0, 0) = 0; addPoint(1, 0) = 1; addPoint(-3, 0) = 2;"
                + "addPoint(5, 0) = 3; isJoined('n', 0, 2) = true; isJoined('n', 2, 0) = true; isJoined('n', 1, 3) = true;"
                + "isJoined('n', 3, 1) = true; isJoined('n', 0, 3) = false; countJoined('n') = 3");
        runs.run("21: 't' once more behind a move", "addPoint(0, 0) = 0; addPoint(10, 0) = 1; addPoint(30, 0) = 2;"
                + "isJoined('t', 0, 1) = true; isJoined('t', 0, 2) = false; move(0, 50, 0) = 2500; isJoined('t', 0, 1) = false;"
                + "isJoined('t', 1, 0) = false; isJoined('t', 0, 2) = true; countJoined('t') = 2; treeSum() = 800");
        runs.run("21: 't' by the lowest of like edges", SQUARE + "isJoined('t', 0, 1) = true; isJoined('t', 0, 3) = true;"
                + "isJoined('t', 1, 2) = true; isJoined('t', 2, 3) = false; isJoined('t', 0, 2) = false;"
                + "isJoined('g', 0, 2) = true; isJoined('g', 1, 3) = true; isJoined('r', 0, 2) = false");
        runs.run("21: in vain", SQUARE + "isJoined('x', 0, 4) = throws.IndexOutOfBoundsException;"
                + "isJoined('g', 4, 4) = throws.IndexOutOfBoundsException; isJoined('g', -1, 0) = throws.IndexOutOfBoundsException;"
                + "isJoined('x', 0, 1) = throws.IllegalArgumentException; isJoined('g', 2, 2) = throws.IllegalArgumentException;"
                + "isJoined('T', 0, 1) = throws.IllegalArgumentException");
        runs.run("22: countJoined", "countJoined('t') = 0; addPoint(0, 0) = 0; countJoined('n') = 0; addPoint(10, 0) = 1;"
                + "countJoined('g') = 1; countJoined('r') = 1; countJoined('n') = 1; countJoined('t') = 1;"
                + "addPoint(10, 10) = 2; addPoint(0, 10) = 3; countJoined('g') = 6; countJoined('r') = 4;"
                + "countJoined('n') = 3; countJoined('t') = 3; countJoined('x') = throws.IllegalArgumentException");
        runs.run("23: treeSum", "treeSum() = 0; addPoint(-100, -100) = 0; treeSum() = 0; addPoint(100, 100) = 1;"
                + "treeSum() = 80000; addPoint(0, 0) = 2; treeSum() = 40000; remove(2) = 2; treeSum() = 80000");
    }

    private static void hulls(Runs runs) {
        runs.run("25: few points, or points on a line", "countHull() = 0; addPoint(0, 0) = 0; countHull() = 1;"
                + "addPoint(0, 9) = 1; countHull() = 2; addPoint(0, 5) = 2; countHull() = 2; addPoint(0, -3) = 3;"
                + "countHull() = 2; hullAt(0) = 3; hullAt(1) = 1; hullAt(2) = throws.NoSuchElementException; hullArea() = 0");
        runs.run("25: the hull of points that are no more", "addPoint(0, 0) = 0; countHull() = 1; remove(0) = 0;"
                + "countHull() = 0; hullAt(0) = throws.NoSuchElementException; hullArea() = 0");
        runs.run("26: from the lowest one to the left", "hullAt(0) = throws.NoSuchElementException; addPoint(5, 9) = 0;"
                + "addPoint(7, 0) = 1; addPoint(0, 5) = 2; addPoint(3, 0) = 3; addPoint(10, 5) = 4; addPoint(5, 0) = 5;"
                + "addPoint(5, 5) = 6; countHull() = 5; hullAt(0) = 3; hullAt(1) = 1; hullAt(2) = 4; hullAt(3) = 0;"
                + "hullAt(4) = 2; hullAt(5) = throws.NoSuchElementException; hullAt(-1) = throws.NoSuchElementException;"
                + "hullAt(2147483647) = throws.NoSuchElementException; hullArea() = 110");
        runs.run("26: of like low ones the leftmost is first", "addPoint(9, 9) = 0; addPoint(8, -2) = 1; addPoint(-8, -2) = 2;"
                + "hullAt(0) = 2; hullAt(1) = 1; hullAt(2) = 0");
        runs.run("25: sides with points in the middle", SQUARE + "addPoint(5, 0) = 4; addPoint(10, 5) = 5; addPoint(5, 10) = 6;"
                + "addPoint(0, 5) = 7; countHull() = 4; hullAt(1) = 1; hullAt(3) = 3; hullArea() = 200");
        runs.run("27: hullArea", "hullArea() = 0; addPoint(-100, -100) = 0; addPoint(100, -100) = 1; hullArea() = 0;"
                + "addPoint(100, 100) = 2; hullArea() = 40000; addPoint(-100, 100) = 3; hullArea() = 80000; remove(0) = 3;"
                + "hullArea() = 40000");
        runs.run("26: the hull of twelve on a circle", CIRCLE + "countHull() = 12; hullAt(0) = 4; hullAt(1) = 3;"
                + "hullAt(2) = 9; hullAt(3) = 1; hullAt(4) = 6; hullAt(5) = 5; hullAt(6) = 0; hullAt(7) = 8; hullAt(8) = 7;"
                + "hullAt(9) = 2; hullAt(10) = 11; hullAt(11) = 10; hullAt(12) = throws.NoSuchElementException;"
                + "hullArea() = 148");
    }

    private static void layersAndDepths(Runs runs) {
        runs.run("28: layers", SQUARE + "addPoint(5, 0) = 4; addPoint(3, 3) = 5; addPoint(7, 3) = 6; addPoint(5, 7) = 7;"
                + "addPoint(5, 3) = 8; addPoint(5, 4) = 9; addPoint(5, 5) = 10; layer(0) = 0; layer(4) = 0; layer(5) = 1;"
                + "layer(7) = 1; layer(8) = 1; layer(9) = 2; layer(10) = 2; layer(11) = throws.IndexOutOfBoundsException;"
                + "layer(-1) = throws.IndexOutOfBoundsException; remove(10) = 10; layer(9) = 2; remove(0) = 9; layer(5) = 0");
        runs.run("28: layers on a line", LINE + "layer(0) = 0; layer(1) = 0; layer(2) = 0; layer(3) = 0");
        runs.run("28: the lowest number in the middle", "addPoint(4, 4) = 0; addPoint(0, 0) = 1; addPoint(9, 0) = 2;"
                + "addPoint(0, 9) = 3; layer(0) = 1; layer(1) = 0; layer(2) = 0; layer(3) = 0; remove(3) = 3; layer(0) = 0");
        runs.run("28: one point", "addPoint(1, 1) = 0; layer(0) = 0; addPoint(2, 1) = 1; layer(1) = 0");
        runs.run("29: depth", "addPoint(0, 0) = 0; depth(0) = 1; addPoint(10, 0) = 1; depth(0) = 1; addPoint(5, 0) = 2;"
                + "depth(2) = 2; depth(0) = 1; addPoint(7, 0) = 3; addPoint(8, 0) = 4; depth(2) = 2; depth(3) = 3;"
                + "depth(5) = throws.IndexOutOfBoundsException; depth(-1) = throws.IndexOutOfBoundsException");
        runs.run("29: depth of two, by the lowest number", "addPoint(0, 0) = 0; addPoint(10, 0) = 1; depth(1) = 1;"
                + "remove(0) = 1; depth(1) = 1");
        runs.run("29: depth in the middle", SQUARE + "addPoint(5, 5) = 4; depth(4) = 3; depth(0) = 1; addPoint(5, 0) = 5;"
                + "depth(5) = 2; addPoint(5, 10) = 6; depth(4) = 4; move(4, 5, 1) = 16; depth(4) = 3");
    }
}
