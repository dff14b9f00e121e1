/** Promises 30 to 40: shapes, walls and moving. */
public final class ShapesTest {
    private static final String SQUARE = "addPoint(0, 0) = 0; addPoint(10, 0) = 1; addPoint(10, 10) = 2; addPoint(0, 10) = 3;";

    public static void main(String[] args) {
        Runs runs = new Runs();
        shapes(runs);
        walls(runs);
        sight(runs);
        moving(runs);
        changes(runs);
        runs.finish("ShapesTest");
    }

    private static void shapes(Runs runs) {
        runs.run("30: countParts", "countParts(5) = 0; addPoint(0, 0) = 0; countParts(99999) = 1; addPoint(1, 0) = 1;"
                + "countParts(99999) = 2; addPoint(2, 0) = 2; countParts(99999) = 3; addPoint(0, 3) = 3; countParts(0) = 4;"
                + "countParts(1) = 2; countParts(2) = 2; countParts(3) = 1; countParts(99999) = 1;"
                + "countParts(-1) = throws.IllegalArgumentException; countParts(100000) = throws.IllegalArgumentException");
        runs.run("30: a quarter is not cut", "addPoint(0, 0) = 0; addPoint(3, 0) = 1; addPoint(0, 50) = 2; countParts(2) = 3;"
                + "countParts(3) = 2");
        runs.run("31: countHoles", SQUARE + "countHoles(24) = 0; countHoles(25) = 1; countHoles(49) = 1; countHoles(50) = 0;"
                + "countHoles(99999) = 0; countHoles(-1) = throws.IllegalArgumentException;"
                + "countHoles(100000) = throws.IllegalArgumentException");
        runs.run("31: the square of a radius is not cut", "addPoint(0, 0) = 0; addPoint(10, 0) = 1; addPoint(5, 9) = 2;"
                + "countHoles(26) = 0; countHoles(27) = 1; countHoles(34) = 1; countHoles(35) = 0;"
                + "countParts(27) = 1; countParts(26) = 2; countParts(24) = 3");
        runs.run("31: no holes on a line", "countHoles(0) = 0; addPoint(0, 0) = 0; addPoint(1, 0) = 1; addPoint(2, 0) = 2;"
                + "countHoles(99999) = 0");
        runs.run("31: a wide flat triangle beyond all sizes", "addPoint(-100, 0) = 0; addPoint(100, 0) = 1;"
                + "addPoint(0, 1) = 2; countHoles(9999) = 0; countHoles(10000) = 1; countHoles(99999) = 1; countParts(99999) = 1;"
                + "move(2, 0, 20) = 361;"
                + "countHoles(67599) = 1; countHoles(67600) = 0; countParts(2600) = 1; countParts(2599) = 3");
    }

    private static void walls(Runs runs) {
        runs.run("32: addWall", "addWall(0, 0, 1, 1) = 0; addWall(-100, -100, 100, 100) = 1; addWall(0, 0, 1, 1) = 2;"
                + "addWall(0, 0, 0, 1) = 3; dropWall() = 3; addWall(0, 0, 1, 0) = 3;"
                + "addWall(5, 5, 5, 5) = throws.IllegalArgumentException; addWall(101, 0, 1, 1) = throws.IllegalArgumentException;"
                + "addWall(0, -101, 1, 1) = throws.IllegalArgumentException;"
                + "addWall(0, 0, -101, 1) = throws.IllegalArgumentException;"
                + "addWall(0, 0, 1, 101) = throws.IllegalArgumentException; addWall(0, 0, 1, 2) = 4; addWall(0, 0, 1, 3) = 5;"
                + "addWall(0, 0, 1, 4) = 6; addWall(0, 0, 1, 5) = 7; addWall(0, 0, 1, 6) = 8; addWall(0, 0, 1, 7) = 9;"
                + "addWall(0, 0, 1, 8) = throws.IllegalStateException; addWall(0, 0, 0, 0) = throws.IllegalArgumentException;"
                + "addWall(0, 0, 101, 0) = throws.IllegalArgumentException; dropWall() = 9; addWall(0, 0, 1, 8) = 9");
        runs.run("33: dropWall", "dropWall() = throws.NoSuchElementException; addPoint(-5, 0) = 0; addPoint(5, 0) = 1;"
                + "addWall(0, -1, 0, 1) = 0; addWall(-5, 5, 5, 5) = 1; dropWall() = 1; sees(-5, 0, 1) = false; dropWall() = 0;"
                + "sees(-5, 0, 1) = true; dropWall() = throws.NoSuchElementException");
    }

    private static void sight(Runs runs) {
        runs.run("34: sees", "addPoint(10, 0) = 0; sees(0, 0, 0) = true; addWall(5, 1, 5, 9) = 0; sees(0, 0, 0) = true;"
                + "sees(0, 2, 0) = false; sees(0, 1, 0) = true; addWall(5, -9, 5, 0) = 1; sees(0, 0, 0) = false;"
                + "sees(0, 1, 0) = true; sees(10, 0, 0) = true; sees(6, 50, 0) = true");
        runs.run("34: in vain", "addPoint(10, 0) = 0; sees(101, 0, 1) = throws.IndexOutOfBoundsException;"
                + "sees(0, 0, -1) = throws.IndexOutOfBoundsException; sees(101, 0, 0) = throws.IllegalArgumentException;"
                + "sees(0, -101, 0) = throws.IllegalArgumentException; sees(-100, 100, 0) = true");
        runs.run("34: walls on the way's own line", "addPoint(10, 0) = 0; addWall(20, 0, 30, 0) = 0; sees(0, 0, 0) = true;"
                + "sees(19, 0, 0) = true; sees(20, 0, 0) = false; sees(25, 0, 0) = false; sees(50, 0, 0) = false;"
                + "addWall(-5, 0, -9, 0) = 1; sees(-4, 0, 0) = true; sees(-5, 0, 0) = false; sees(-50, 0, 0) = false;"
                + "sees(-50, 1, 0) = true");
        runs.run("34: walls that are met by their ends", "addPoint(10, 10) = 0; addWall(5, 5, 5, 20) = 0; sees(0, 0, 0) = false;"
                + "sees(1, 0, 0) = true; sees(0, 1, 0) = false; move(0, 5, 12) = 29; sees(5, 12, 0) = false; sees(9, 9, 0) = false;"
                + "move(0, 5, 4) = 64; sees(5, 4, 0) = true; sees(5, 5, 0) = false");
        runs.run("34: a long slanting wall, all but met", "addPoint(99, 98) = 0; addWall(-100, -100, 100, 100) = 0;"
                + "sees(-99, -100, 0) = true; sees(-100, -99, 0) = false; move(0, 99, 99) = 1; sees(99, 98, 0) = false");
        runs.run("34: up and down through level walls", "addPoint(0, 10) = 0; addWall(-5, 0, 5, 0) = 0;"
                + "sees(0, -10, 0) = false; sees(10, -10, 0) = false; sees(11, -10, 0) = true; sees(-11, -10, 0) = true;"
                + "move(0, 0, -10) = 400; sees(0, 10, 0) = false; sees(0, -1, 0) = true; sees(-9, 10, 0) = false");
        runs.run("34: a way that ends before the wall", "addPoint(4, 6) = 0; addWall(0, 0, 10, 10) = 0; sees(2, 9, 0) = true;"
                + "move(0, 5, 5) = 2; sees(2, 9, 0) = false; move(0, 6, 4) = 2; sees(8, 1, 0) = true; sees(2, 9, 0) = false");
        runs.run("35: countSeen", "addPoint(0, 0) = 0; countSeen(0) = 0; addPoint(10, 0) = 1; addPoint(0, 10) = 2;"
                + "countSeen(0) = 2; addWall(5, -5, 5, 4) = 0; countSeen(0) = 1; countSeen(1) = 1; countSeen(2) = 2;"
                + "addWall(0, 10, 0, 20) = 1; countSeen(2) = 0; countSeen(0) = 0; countSeen(1) = 0;"
                + "countSeen(3) = throws.IndexOutOfBoundsException; countSeen(-1) = throws.IndexOutOfBoundsException");
        runs.run("36: leastGuards", "leastGuards() = 0; addPoint(0, 0) = 0; leastGuards() = 1; addPoint(20, 0) = 1;"
                + "addPoint(40, 0) = 2; addPoint(60, 0) = 3; leastGuards() = 1; addWall(10, -5, 10, 5) = 0; leastGuards() = 2;"
                + "addWall(30, -5, 30, 5) = 1; leastGuards() = 3; addWall(50, -5, 50, 5) = 2; leastGuards() = 4;"
                + "addPoint(30, 90) = 4; leastGuards() = 1; addWall(30, 90, 30, 91) = 3; leastGuards() = 5");
        runs.run("36: three guards, though each of two others sees many", "addPoint(0, 0) = 0; addPoint(10, 0) = 1;"
                + "addPoint(20, 0) = 2; addWall(20, 0, 21, 0) = 0; leastGuards() = 2; addWall(0, 0, -1, 0) = 1; leastGuards() = 3");
    }

    private static void moving(Runs runs) {
        runs.run("37: setSpeed", "addPoint(0, 0) = 0; setSpeed(0, 0, 0) = true; setSpeed(0, -9, 9) = true;"
                + "setSpeed(0, 0, 1) = false; setSpeed(0, 1, 0) = false; setSpeed(0, 0, 0) = false; setSpeed(0, 9, -9) = true;"
                + "setSpeed(0, 10, 0) = throws.IllegalArgumentException; setSpeed(0, -10, 0) = throws.IllegalArgumentException;"
                + "setSpeed(0, 0, 10) = throws.IllegalArgumentException; setSpeed(0, 0, -10) = throws.IllegalArgumentException;"
                + "setSpeed(1, 10, 0) = throws.IndexOutOfBoundsException; setSpeed(-1, 0, 0) = throws.IndexOutOfBoundsException;"
                + "pass(1) = 1; pointAt(9, -9) = 0");
        runs.run("38: pass", "pass(1) = 0; addPoint(0, 0) = 0; addPoint(50, 0) = 1; addPoint(0, 50) = 2; pass(20) = 0;"
                + "setSpeed(0, 1, -2) = true; setSpeed(2, 0, 2) = true; pass(20) = 2; pointAt(20, -40) = 0; pointAt(50, 0) = 1;"
                + "pointAt(0, 90) = 2; pass(5) = 2; pointAt(0, 100) = 2; pass(1) = throws.UnsupportedOperationException;"
                + "pointAt(0, 100) = 2; pointAt(25, -50) = 0; pass(0) = throws.IllegalArgumentException;"
                + "pass(21) = throws.IllegalArgumentException; pass(-1) = throws.IllegalArgumentException;"
                + "setSpeed(2, 0, -1) = false; pass(1) = 2; pointAt(0, 99) = 2");
        runs.run("38: up to the edges, not beyond", "addPoint(90, 0) = 0; setSpeed(0, 5, 0) = true; pass(2) = 1;"
                + "pass(1) = throws.UnsupportedOperationException; setSpeed(0, -9, 0) = false; pass(20) = 1;"
                + "setSpeed(0, -1, -5) = false; pass(20) = 1; pointAt(-100, -100) = 0;"
                + "pass(1) = throws.UnsupportedOperationException; setSpeed(0, 0, -1) = false;"
                + "pass(1) = throws.UnsupportedOperationException; setSpeed(0, -1, 0) = false;"
                + "pass(1) = throws.UnsupportedOperationException; setSpeed(0, 0, 1) = false; pass(1) = 1");
        runs.run("38: two at the same place, one going up", "addPoint(0, 0) = 0; addPoint(0, 10) = 1;"
                + "setSpeed(0, 0, 1) = true; setSpeed(1, 0, -1) = true; pass(5) = throws.UnsupportedOperationException;"
                + "pass(4) = 2; pointAt(0, 4) = 0; pointAt(0, 6) = 1");
        runs.run("38: two at the same place", "addPoint(0, 0) = 0; addPoint(10, 0) = 1; setSpeed(0, 1, 0) = true;"
                + "pass(10) = throws.UnsupportedOperationException; pass(11) = 1; pointAt(11, 0) = 0; setSpeed(1, 2, 0) = true;"
                + "pass(1) = throws.UnsupportedOperationException; pass(2) = 2; pointAt(13, 0) = 0; pointAt(14, 0) = 1");
        runs.run("38: places are exchanged, or followed", "addPoint(0, 0) = 0; addPoint(4, 0) = 1; addPoint(8, 0) = 2;"
                + "setSpeed(0, 2, 0) = true; setSpeed(1, -2, 0) = true; pass(1) = throws.UnsupportedOperationException;"
                + "pass(2) = 2; pointAt(4, 0) = 0; pointAt(0, 0) = 1; setSpeed(2, 2, 0) = true; setSpeed(1, 2, 0) = false;"
                + "pass(2) = 3; pointAt(4, 0) = 1; pointAt(8, 0) = 0; pointAt(12, 0) = 2");
        runs.run("38: what passed is computed anew", SQUARE + "countTriangles() = 2; countHull() = 4; setSpeed(2, 1, 1) = true;"
                + "isTriangle(0, 1, 2) = true; pass(1) = 1; isTriangle(0, 1, 2) = false; isTriangle(1, 2, 3) = true;"
                + "hullArea() = 220; treeSum() = 322");
    }

    private static void changes(Runs runs) {
        runs.run("39, 40: the next change", "nextTime(0, 0) = throws.NoSuchElementException;"
                + "nextNearest(0, 0) = throws.NoSuchElementException; nextTime(101, 0) = throws.IllegalArgumentException;"
                + "nextNearest(0, -101) = throws.IllegalArgumentException; addPoint(0, 0) = 0;"
                + "nextTime(0, 0) = throws.NoSuchElementException; addPoint(100, 0) = 1; setSpeed(1, -1, 0) = true;"
                + "nextTime(0, 0) = throws.NoSuchElementException; nextNearest(0, 0) = throws.NoSuchElementException;"
                + "nextTime(1, 0) = 99; nextNearest(1, 0) = 1; nextTime(10, 0) = 81; nextNearest(10, 0) = 1;"
                + "nextTime(100, 0) = throws.NoSuchElementException; setSpeed(1, 1, 0) = false; nextTime(55, 0) = 10;"
                + "nextNearest(55, 0) = 0; nextTime(-101, 0) = throws.IllegalArgumentException;"
                + "nextTime(0, 101) = throws.IllegalArgumentException; nextNearest(101, 0) = throws.IllegalArgumentException");
        runs.run("39: of like ones the lowest number", "addPoint(50, 0) = 0; addPoint(10, 0) = 1; setSpeed(0, -5, 0) = true;"
                + "nextTime(0, 0) = 8; nextNearest(0, 0) = 0; undo() = 1; addPoint(0, 1) = 1; setSpeed(0, -7, 0) = true;"
                + "nextTime(0, 0) = 7; nextNearest(0, 0) = 0");
        runs.run("40: past other points, and beyond the ground", "addPoint(0, 0) = 0; addPoint(-100, 0) = 1;"
                + "setSpeed(0, 9, 9) = true; nextTime(0, 0) = 8; nextNearest(0, 0) = 1; setSpeed(0, 0, 0) = false;"
                + "setSpeed(1, 9, 0) = true; nextTime(0, 0) = throws.NoSuchElementException; nextTime(1, 0) = throws.NoSuchElementException;"
                + "nextTime(4, 0) = throws.NoSuchElementException;"
                + "nextTime(5, 0) = 12; nextNearest(5, 0) = 1; nextTime(100, 0) = 12");
        runs.run("40: up and down, and a change at once", "addPoint(0, 0) = 0; addPoint(0, 20) = 1;"
                + "setSpeed(1, 0, -3) = true; nextTime(0, 5) = 4; nextNearest(0, 5) = 1; move(1, 0, -20) = 1600;"
                + "nextTime(0, -10) = throws.NoSuchElementException; setSpeed(1, 0, 9) = false; nextTime(0, -9) = 1;"
                + "nextNearest(0, -9) = 1; nextTime(0, -14) = 3; nextNearest(0, -14) = 0");
        runs.run("40: places are those of now for all else", "addPoint(0, 0) = 0; addPoint(20, 0) = 1; setSpeed(1, -9, 0) = true;"
                + "nearest('e', 5, 0) = 0; nextTime(5, 0) = 2; nearest('e', 5, 0) = 0; pass(2) = 1; nearest('e', 5, 0) = 1;"
                + "pointAt(2, 0) = 1");
    }
}
