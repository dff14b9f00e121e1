/** Promises 1 to 8: points, and taking calls back. */
public final class PointsTest {
    private static final String TWELVE = "addPoint(0, 0) = 0; addPoint(1, 0) = 1; addPoint(2, 0) = 2;"
            + "addPoint(3, 0) = 3; addPoint(4, 0) = 4; addPoint(5, 0) = 5; addPoint(6, 0) = 6; addPoint(7, 0) = 7;"
            + "addPoint(8, 0) = 8; addPoint(9, 0) = 9; addPoint(10, 0) = 10; addPoint(11, 0) = 11;";

    public static void main(String[] args) {
        Runs runs = new Runs();
        runs.run("1: a new object", "countPoints() = 0; countTriangles() = 0; checksum() = 6727; countHull() = 0;"
                + "undo() = throws.NoSuchElementException; dropWall() = throws.NoSuchElementException;"
                + "treeSum() = 0; hullArea() = 0; isSound() = true; leastGuards() = 0; countDiscs(0) = 0;"
                + "countParts(0) = 0; countHoles(99999) = 0; countJoined('g') = 0; within(0, 0, 9999999) = 0");

        runs.run("2: addPoint takes the lowest free number", "addPoint(3, 4) = 0; addPoint(-100, 100) = 1;"
                + "addPoint(100, -100) = 2; remove(1) = 2; addPoint(0, 0) = 1; addPoint(1, 1) = 3; countPoints() = 4");
        runs.run("2: addPoint beyond the ground", "addPoint(101, 0) = throws.IllegalArgumentException;"
                + "addPoint(-101, 0) = throws.IllegalArgumentException;"
                + "addPoint(0, 101) = throws.IllegalArgumentException;"
                + "addPoint(0, -101) = throws.IllegalArgumentException;"
                + "addPoint(2147483647, -2147483648) = throws.IllegalArgumentException;"
                + "countPoints() = 0; undo() = throws.NoSuchElementException");
        runs.run("2: addPoint on a point", "addPoint(5, 5) = 0; addPoint(5, 5) = throws.UnsupportedOperationException;"
                + "addPoint(5, -5) = 1; countPoints() = 2");
        runs.run("2: addPoint to twelve, and the order of exceptions", TWELVE
                + "addPoint(50, 50) = throws.IllegalStateException;"
                + "addPoint(11, 0) = throws.UnsupportedOperationException;"
                + "addPoint(101, 0) = throws.IllegalArgumentException; countPoints() = 12;"
                + "remove(7) = 11; addPoint(50, 50) = 7; countPoints() = 12");
        runs.run("2: a new point has no weight and stands still", "addPoint(5, 5) = 0; setWeight(0, 9) = 0;"
                + "setSpeed(0, 1, 1) = true; remove(0) = 0; addPoint(6, 6) = 0; setWeight(0, 3) = 0;"
                + "setSpeed(0, 2, 2) = true");

        runs.run("3: remove", "addPoint(1, 1) = 0; addPoint(2, 2) = 1; remove(0) = 1;"
                + "remove(0) = throws.IndexOutOfBoundsException; remove(-1) = throws.IndexOutOfBoundsException;"
                + "remove(12) = throws.IndexOutOfBoundsException; remove(32) = throws.IndexOutOfBoundsException;"
                + "remove(33) = throws.IndexOutOfBoundsException; remove(2147483647) = throws.IndexOutOfBoundsException;"
                + "remove(-2147483648) = throws.IndexOutOfBoundsException;"
                + "pointAt(1, 1) = throws.NoSuchElementException; remove(1) = 0; countPoints() = 0");

        runs.run("4: move", "addPoint(0, 0) = 0; addPoint(10, 0) = 1; move(0, 3, 4) = 25; pointAt(3, 4) = 0;"
                + "pointAt(0, 0) = throws.NoSuchElementException; move(0, 3, 4) = 0; move(0, 100, 100) = 18625;"
                + "move(0, -100, -100) = 80000; move(1, 0, 0) = 100");
        runs.run("4: move keeps weight and speed", "addPoint(0, 0) = 0; setWeight(0, 7) = 0; setSpeed(0, 1, 0) = true;"
                + "move(0, 5, 5) = 50; setWeight(0, 7) = 7; setSpeed(0, 1, 0) = false");
        runs.run("4: move in vain", "addPoint(0, 0) = 0; addPoint(10, 0) = 1;"
                + "move(2, 0, 101) = throws.IndexOutOfBoundsException;"
                + "move(-1, 10, 0) = throws.IndexOutOfBoundsException;"
                + "move(0, 101, 0) = throws.IllegalArgumentException;"
                + "move(0, 0, -101) = throws.IllegalArgumentException;"
                + "move(0, 10, 0) = throws.UnsupportedOperationException; pointAt(0, 0) = 0; pointAt(10, 0) = 1");

        runs.run("5: setWeight", "addPoint(0, 0) = 0; setWeight(0, 999) = 0; setWeight(0, 0) = 999; setWeight(0, 5) = 0;"
                + "setWeight(0, 1000) = throws.IllegalArgumentException;"
                + "setWeight(0, -1) = throws.IllegalArgumentException; setWeight(0, 6) = 5;"
                + "setWeight(1, 5) = throws.IndexOutOfBoundsException;"
                + "setWeight(1, 1000) = throws.IndexOutOfBoundsException;"
                + "setWeight(-1, 0) = throws.IndexOutOfBoundsException");

        runs.run("6: countPoints", "countPoints() = 0; addPoint(0, 0) = 0; countPoints() = 1; addPoint(1, 0) = 1;"
                + "countPoints() = 2; remove(0) = 1; countPoints() = 1; undo() = 2; countPoints() = 2");

        runs.run("7: pointAt", "pointAt(0, 0) = throws.NoSuchElementException; addPoint(0, 0) = 0; addPoint(0, 1) = 1;"
                + "pointAt(0, 0) = 0; pointAt(0, 1) = 1; pointAt(1, 0) = throws.NoSuchElementException;"
                + "pointAt(5000, -5000) = throws.NoSuchElementException; remove(1) = 1;"
                + "pointAt(0, 1) = throws.NoSuchElementException");

        undoing(runs);
        runs.finish("PointsTest");
    }

    private static void undoing(Runs runs) {
        runs.run("8: undo of each call", "addPoint(1, 1) = 0; undo() = 0; countPoints() = 0;"
                + "undo() = throws.NoSuchElementException; addPoint(1, 1) = 0; move(0, 2, 2) = 2; remove(0) = 0;"
                + "undo() = 2; pointAt(2, 2) = 0; undo() = 1; pointAt(1, 1) = 0; undo() = 0; countPoints() = 0");
        runs.run("8: undo brings weights and speeds back", "addPoint(1, 1) = 0; setWeight(0, 5) = 0;"
                + "setSpeed(0, 1, 2) = true; addPoint(9, 9) = 1; setWeight(0, 6) = 5; setSpeed(0, 0, 0) = false;"
                + "setWeight(1, 8) = 0; undo() = 1; setWeight(0, 7) = 5; setSpeed(0, 3, 3) = false;"
                + "remove(0) = 0; undo() = 1; setWeight(0, 7) = 7; setSpeed(0, 0, 0) = false");
        runs.run("8: undo takes passing back too", "addPoint(1, 1) = 0; setSpeed(0, 1, 2) = true; addPoint(50, 50) = 1;"
                + "pass(10) = 1; pointAt(11, 21) = 0; undo() = 1; pointAt(1, 1) = 0; countPoints() = 1");
        runs.run("8: undo keeps the twelfth point whole", TWELVE + "setWeight(11, 3) = 0; setSpeed(11, 2, 0) = true;"
                + "move(11, 50, 60) = 5121; setWeight(11, 4) = 3; setSpeed(11, 0, 0) = false; undo() = 12; pointAt(11, 0) = 11;"
                + "setWeight(11, 4) = 3; setSpeed(11, 0, 3) = false; remove(11) = 11; undo() = 12; setWeight(11, 4) = 4;"
                + "setSpeed(11, 0, 0) = false; undo() = 11; countPoints() = 11");
        runs.run("8: undo brings both parts of a speed back", "addPoint(1, 1) = 0; setSpeed(0, 0, 2) = true;"
                + "move(0, 5, 5) = 32; setSpeed(0, 0, 0) = false; undo() = 1; pass(3) = 1; pointAt(1, 7) = 0;"
                + "setSpeed(0, -2, 0) = false; move(0, 5, 5) = 20; setSpeed(0, 0, 0) = false; undo() = 1; pass(3) = 1;"
                + "pointAt(-5, 7) = 0");
        runs.run("8: undo of a move to the same place", "addPoint(1, 1) = 0; move(0, 1, 1) = 0; undo() = 1; undo() = 0");
        runs.run("8: calls that throw, or are none of the three, leave nothing to undo", "addPoint(1, 1) = 0;"
                + "addPoint(1, 1) = throws.UnsupportedOperationException; remove(3) = throws.IndexOutOfBoundsException;"
                + "move(0, 500, 0) = throws.IllegalArgumentException; setWeight(0, 4) = 0; addWall(0, 0, 1, 1) = 0;"
                + "setSpeed(0, 1, 1) = true; pass(1) = 1; undo() = 0; undo() = throws.NoSuchElementException");
        runs.run("8: undo leaves walls", "addPoint(1, 1) = 0; addWall(0, 0, 1, 1) = 0; undo() = 0; dropWall() = 0");
        runs.run("8: at most 20 calls", manyMoves(25) + "undo() = 19; pointAt(24, 0) = 0;"
                + times("undo()", 18) + "undo() = 0; pointAt(5, 0) = 0; undo() = throws.NoSuchElementException;"
                + "pointAt(5, 0) = 0; move(0, 7, 7) = 53; undo() = 0; pointAt(5, 0) = 0");
        runs.run("8: just 20 calls", manyMoves(19) + "undo() = 19;" + times("undo()", 18)
                + "undo() = 0; countPoints() = 0; undo() = throws.NoSuchElementException");
        runs.run("8: what is taken back is computed anew", "addPoint(0, 0) = 0; addPoint(10, 0) = 1; addPoint(0, 10) = 2;"
                + "countTriangles() = 1; treeSum() = 200; remove(2) = 2; countTriangles() = 0; treeSum() = 100;"
                + "undo() = 3; countTriangles() = 1; treeSum() = 200");
    }

    /** A point, and so many moves to the right, one each. */
    private static String manyMoves(int moves) {
        StringBuilder text = new StringBuilder("addPoint(0, 0) = 0;");
        for (int x = 1; x <= moves; x++) {
            text.append("move(0, ").append(x).append(", 0) = 1;");
        }
        return text.toString();
    }

    private static String times(String call, int many) {
        return (call + ";").repeat(many);
    }
}
