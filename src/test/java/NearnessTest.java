/** Promises 9 to 16: nearness, cells, turns and circles. */
public final class NearnessTest {
    private static final String BOUNDS_OF_PLACES = "%1$s('e', 1000, 0%2$s) = throws.IllegalArgumentException;"
            + "%1$s('e', -1000, 0%2$s) = throws.IllegalArgumentException;"
            + "%1$s('e', 0, 1000%2$s) = throws.IllegalArgumentException;"
            + "%1$s('e', 0, -1000%2$s) = throws.IllegalArgumentException;"
            + "%1$s('x', 0, 0%2$s) = throws.IllegalArgumentException;"
            + "%1$s('E', 0, 0%2$s) = throws.IllegalArgumentException;"
            + "%1$s('e', 999, -999%2$s) = throws.NoSuchElementException;"
            + "%1$s('p', -999, 999%2$s) = throws.NoSuchElementException;";

    public static void main(String[] args) {
        Runs runs = new Runs();
        for (String call : new String[] {"nearest", "nearness", "farthest"}) {
            runs.run("9 to 11: " + call + " in vain", String.format(BOUNDS_OF_PLACES, call, ""));
        }
        runs.run("12: nearestAt in vain", String.format(BOUNDS_OF_PLACES, "nearestAt", ", 0"));

        runs.run("9: nearest by each kind", "addPoint(6, 0) = 0; addPoint(4, 4) = 1; addPoint(0, 7) = 2;"
                + "nearest('e', 0, 0) = 1; nearest('s', 0, 0) = 0; nearest('m', 0, 0) = 1; nearest('p', 0, 0) = 1;"
                + "setWeight(2, 30) = 0; nearest('p', 0, 0) = 2; nearest('e', 0, 0) = 1; nearest('e', 999, -999) = 0");
        runs.run("9: ties go to the lowest number", "addPoint(1, 0) = 0; addPoint(0, 1) = 1; addPoint(-1, 0) = 2;"
                + "nearest('e', 0, 0) = 0; nearest('s', 0, 0) = 0; nearest('m', 0, 0) = 0; nearest('p', 0, 0) = 0;"
                + "remove(0) = 2; nearest('e', 0, 0) = 1; nearest('e', -1, -1) = 2; nearest('m', -1, -1) = 2;"
                + "nearest('m', -1, 1) = 1");

        runs.run("10: nearness", "addPoint(3, -4) = 0; nearness('e', 0, 0) = 25; nearness('s', 0, 0) = 7;"
                + "nearness('m', 0, 0) = 4; nearness('p', 0, 0) = 25; setWeight(0, 999) = 0; nearness('p', 0, 0) = -974;"
                + "nearness('p', 3, -4) = -999; nearness('e', 3, -4) = 0; nearness('e', -999, 999) = 2010013;"
                + "nearness('s', -999, 999) = 2005; nearness('m', -999, 999) = 1003");

        runs.run("11: farthest", "addPoint(6, 0) = 0; addPoint(4, 4) = 1; addPoint(0, 5) = 2; farthest('e', 0, 0) = 0;"
                + "farthest('s', 0, 0) = 1; farthest('m', 0, 0) = 0; farthest('p', 0, 0) = 0; setWeight(0, 10) = 0;"
                + "farthest('p', 0, 0) = 1; setWeight(1, 7) = 0; farthest('p', 0, 0) = 0");
        runs.run("11: ties of farthest ones", "addPoint(1, 0) = 0; addPoint(5, 0) = 1; addPoint(0, 5) = 2;"
                + "farthest('e', 0, 0) = 1; farthest('s', 0, 0) = 1; remove(1) = 2; farthest('e', 0, 0) = 2");

        runs.run("12: nearestAt", "addPoint(3, 0) = 0; addPoint(0, 2) = 1; addPoint(-3, 0) = 2; addPoint(1, 0) = 3;"
                + "nearestAt('e', 0, 0, 0) = 3; nearestAt('e', 0, 0, 1) = 1; nearestAt('e', 0, 0, 2) = 0;"
                + "nearestAt('e', 0, 0, 3) = 2; nearestAt('e', 0, 0, 4) = throws.NoSuchElementException;"
                + "nearestAt('e', 0, 0, -1) = throws.NoSuchElementException;"
                + "nearestAt('e', 0, 0, 2147483647) = throws.NoSuchElementException;"
                + "nearestAt('m', 0, 1, 0) = 1; nearestAt('m', 0, 1, 1) = 3; nearestAt('s', 2, 2, 0) = 1;"
                + "setWeight(2, 900) = 0; nearestAt('p', 0, 0, 0) = 2; nearestAt('p', 0, 0, 3) = 0");

        runs.run("13: within", "addPoint(0, 0) = 0; addPoint(3, 4) = 1; addPoint(10, 0) = 2; within(0, 0, 0) = 1;"
                + "within(0, 0, 24) = 1; within(0, 0, 25) = 2; within(0, 0, 99) = 2; within(0, 0, 100) = 3;"
                + "within(999, 999, 9999999) = 3; within(-999, -999, 0) = 0; setWeight(2, 999) = 0; within(0, 0, 99) = 2;"
                + "within(0, 0, -1) = throws.IllegalArgumentException;"
                + "within(0, 0, 10000000) = throws.IllegalArgumentException;"
                + "within(1000, 0, 5) = throws.IllegalArgumentException;"
                + "within(0, -1000, 5) = throws.IllegalArgumentException");

        runs.run("14: cell of one and of two points", "addPoint(100, 100) = 0; cell('e', 0) = 1681; addPoint(-100, 100) = 1;"
                + "cell('e', 0) = 861; cell('e', 1) = 820; cell('s', 0) = 861; cell('m', 1) = 610; cell('p', 0) = 861;"
                + "setWeight(1, 999) = 0; cell('p', 0) = 738; cell('p', 1) = 943");
        runs.run("14: cell by streets and by the greater difference", "addPoint(0, 0) = 0; addPoint(2, 2) = 1;"
                + "cell('e', 0) = 940; cell('e', 1) = 741; cell('s', 0) = 1282; cell('s', 1) = 399;"
                + "cell('m', 0) = 940; cell('m', 1) = 741");
        runs.run("14: cell in vain", "addPoint(0, 0) = 0; cell('x', 1) = throws.IndexOutOfBoundsException;"
                + "cell('x', 0) = throws.IllegalArgumentException; cell('e', -1) = throws.IndexOutOfBoundsException");

        runs.run("15: turn", "addPoint(0, 0) = 0; addPoint(10, 0) = 1; addPoint(10, 10) = 2; addPoint(20, 0) = 3;"
                + "turn(0, 1, 2) = 1; turn(0, 2, 1) = -1; turn(1, 2, 0) = 1; turn(0, 1, 3) = 0; turn(0, 0, 2) = 0;"
                + "turn(1, 1, 1) = 0; turn(0, 1, 4) = throws.IndexOutOfBoundsException;"
                + "turn(0, 4, 1) = throws.IndexOutOfBoundsException; turn(-1, 0, 1) = throws.IndexOutOfBoundsException");
        runs.run("15: turn of the widest three", "addPoint(-100, -100) = 0; addPoint(100, 99) = 1; addPoint(99, 98) = 2;"
                + "turn(0, 1, 2) = -1; turn(0, 2, 1) = 1");

        runs.run("16: inCircle", "addPoint(0, 0) = 0; addPoint(10, 0) = 1; addPoint(10, 10) = 2; addPoint(0, 10) = 3;"
                + "addPoint(5, 5) = 4; addPoint(11, 11) = 5; inCircle(0, 1, 2, 3) = 0; inCircle(0, 1, 2, 4) = 1;"
                + "inCircle(2, 1, 0, 4) = 1; inCircle(0, 1, 2, 5) = -1; inCircle(0, 2, 1, 5) = -1; inCircle(0, 1, 2, 0) = 0;"
                + "inCircle(0, 1, 2, 2) = 0; inCircle(0, 4, 2, 1) = throws.UnsupportedOperationException;"
                + "inCircle(0, 0, 2, 1) = throws.UnsupportedOperationException;"
                + "inCircle(0, 0, 0, 9) = throws.IndexOutOfBoundsException;"
                + "inCircle(9, 0, 1, 2) = throws.IndexOutOfBoundsException;"
                + "inCircle(0, -1, 1, 2) = throws.IndexOutOfBoundsException;"
                + "inCircle(0, 1, 12, 2) = throws.IndexOutOfBoundsException");
        runs.run("16: inCircle beyond the range of int", "addPoint(-100, -100) = 0; addPoint(100, -100) = 1;"
                + "addPoint(100, 100) = 2; addPoint(-100, 100) = 3; addPoint(-100, 99) = 4; addPoint(-99, 100) = 5;"
                + "inCircle(0, 1, 2, 3) = 0; inCircle(0, 1, 2, 4) = 1; inCircle(0, 1, 4, 3) = -1; inCircle(2, 1, 5, 3) = -1");
        runs.finish("NearnessTest");
    }
}
