/** Promises 41 to 49: clusters, centres, discs and sums over all. */
public final class ClustersTest {
    private static final String THREE = "addPoint(0, 0) = 0; addPoint(10, 0) = 1; addPoint(30, 0) = 2;";
    private static final String CHAIN = "addPoint(0, 0) = 0; addPoint(10, 0) = 1; addPoint(21, 0) = 2; addPoint(33, 0) = 3;";

    public static void main(String[] args) {
        Runs runs = new Runs();
        clusters(runs);
        centres(runs);
        sums(runs);
        runs.finish("ClustersTest");
    }

    private static void clusters(Runs runs) {
        runs.run("41: by the nearest two, and by the farthest two", CHAIN + "cluster('a', 4, 3) = 3; cluster('a', 3, 1) = 0;"
                + "cluster('a', 3, 2) = 2; cluster('a', 2, 2) = 0; cluster('a', 2, 3) = 3; cluster('a', 1, 3) = 0;"
                + "cluster('z', 3, 1) = 0; cluster('z', 2, 2) = 2; cluster('z', 2, 3) = 2; cluster('z', 1, 3) = 0;"
                + "joinedAt('a', 3) = 100; joinedAt('a', 2) = 121; joinedAt('a', 1) = 144; joinedAt('z', 3) = 100;"
                + "joinedAt('z', 2) = 144; joinedAt('z', 1) = 1089");
        runs.run("41: like ones by the lowest numbers", "addPoint(0, 0) = 0; addPoint(10, 0) = 1; addPoint(20, 0) = 2;"
                + "addPoint(30, 0) = 3; cluster('z', 3, 1) = 0; cluster('z', 3, 2) = 2; cluster('z', 2, 2) = 2;"
                + "cluster('z', 2, 3) = 2; cluster('a', 3, 2) = 2; cluster('a', 2, 2) = 0; cluster('a', 2, 3) = 3;"
                + "remove(0) = 3; cluster('a', 2, 2) = 1; cluster('a', 2, 3) = 3; cluster('z', 1, 3) = 1");
        runs.run("41: the lowest point's number, first the lower one", "addPoint(50, 0) = 0; addPoint(0, 0) = 1;"
                + "addPoint(56, 0) = 2; addPoint(5, 0) = 3; cluster('a', 3, 3) = 1; cluster('a', 3, 0) = 0; cluster('a', 2, 2) = 0;"
                + "cluster('a', 2, 3) = 1; move(2, 55, 0) = 1; cluster('a', 3, 3) = 3; cluster('a', 3, 2) = 0");
        runs.run("41: in vain", THREE + "cluster('x', 9, 3) = throws.IndexOutOfBoundsException;"
                + "cluster('a', 1, -1) = throws.IndexOutOfBoundsException; cluster('x', 1, 0) = throws.IllegalArgumentException;"
                + "cluster('a', 0, 0) = throws.IllegalArgumentException; cluster('a', 4, 0) = throws.IllegalArgumentException;"
                + "cluster('z', 3, 2) = 2; cluster('z', 1, 2) = 0");
        runs.run("42: joinedAt in vain", "joinedAt('a', 1) = throws.IllegalArgumentException; addPoint(0, 0) = 0;"
                + "joinedAt('a', 1) = throws.IllegalArgumentException; joinedAt('a', 0) = throws.IllegalArgumentException;"
                + "addPoint(1, 0) = 1; joinedAt('a', 1) = 1; joinedAt('z', 1) = 1; joinedAt('a', 2) = throws.IllegalArgumentException;"
                + "joinedAt('b', 1) = throws.IllegalArgumentException; joinedAt('a', -1) = throws.IllegalArgumentException");
    }

    private static void centres(Runs runs) {
        runs.run("43: centreDistance", "centreDistance(1) = throws.NoSuchElementException; " + THREE
                + "centreDistance(1) = 400; centreDistance(2) = 100; centreDistance(3) = 0;"
                + "centreDistance(4) = throws.NoSuchElementException; centreDistance(0) = throws.IllegalArgumentException;"
                + "centreDistance(5) = throws.IllegalArgumentException; addPoint(0, 40) = 3; centreDistance(4) = 0");
        runs.run("44: centre", THREE + "centre(1, 0) = 1; centre(2, 0) = 0; centre(2, 1) = 2; centre(3, 0) = 0; centre(3, 1) = 1;"
                + "centre(3, 2) = 2; centre(4, 0) = throws.NoSuchElementException; centre(4, 4) = throws.IllegalArgumentException;"
                + "centre(5, 0) = throws.IllegalArgumentException; centre(0, 0) = throws.IllegalArgumentException;"
                + "centre(1, 1) = throws.IllegalArgumentException; centre(3, 3) = throws.IllegalArgumentException;"
                + "centre(2, -1) = throws.IllegalArgumentException; centre(4, -1) = throws.IllegalArgumentException");
        runs.run("44: of several those with the lowest numbers", "addPoint(0, 0) = 0; addPoint(10, 0) = 1; addPoint(10, 10) = 2;"
                + "addPoint(0, 10) = 3; centre(1, 0) = 0; centre(2, 0) = 0; centre(2, 1) = 1; centreDistance(2) = 100;"
                + "centre(3, 0) = 0; centre(3, 1) = 1; centre(3, 2) = 2; remove(0) = 3; centre(1, 0) = 2; centre(2, 0) = 1;"
                + "centre(2, 1) = 2");
        runs.run("44: a lower first one goes ahead of a lower second one", "addPoint(40, 0) = 0; addPoint(1, 0) = 1;"
                + "addPoint(0, 0) = 2; addPoint(-1, 0) = 3; addPoint(41, 0) = 4; centreDistance(2) = 1; centre(2, 0) = 0;"
                + "centre(2, 1) = 2; move(2, 0, 5) = 25; centreDistance(2) = 26; centre(2, 0) = 0; centre(2, 1) = 1");
        runs.run("44: lower numbers do not make a greater distance good", "addPoint(-3, 0) = 0; addPoint(0, 0) = 1;"
                + "addPoint(50, 0) = 2; addPoint(53, 0) = 3; addPoint(3, 0) = 4; addPoint(47, 0) = 5; centreDistance(2) = 9;"
                + "centre(2, 0) = 1; centre(2, 1) = 2; centre(1, 0) = 4; centreDistance(1) = 2500");
        runs.run("45: one disc round the lowest number", "addPoint(0, 0) = 0; addPoint(9, 0) = 1; addPoint(-9, 0) = 2;"
                + "countDiscs(80) = 3; countDiscs(81) = 1; countDiscs(323) = 1");
        runs.run("45: countDiscs", THREE + "countDiscs(0) = 3; countDiscs(99) = 3; countDiscs(100) = 2; countDiscs(399) = 2;"
                + "countDiscs(400) = 1; countDiscs(99999) = 1; countDiscs(-1) = throws.IllegalArgumentException;"
                + "countDiscs(100000) = throws.IllegalArgumentException; remove(1) = 2; countDiscs(899) = 2; countDiscs(900) = 1");
    }

    private static void sums(Runs runs) {
        runs.run("46: getHullShare", "getHullShare() = throws.ArithmeticException; addPoint(0, 0) = 0; getHullShare() = 1.0;"
                + "addPoint(1, 0) = 1; addPoint(2, 0) = 2; getHullShare() = 0.6666667; addPoint(3, 0) = 3; getHullShare() = 0.5;"
                + "move(3, 0, 5) = 34; getHullShare() = 0.75");
        runs.run("47: getMeanNeighbours", "getMeanNeighbours() = throws.ArithmeticException; addPoint(0, 0) = 0;"
                + "getMeanNeighbours() = 0.0; addPoint(10, 0) = 1; addPoint(10, 10) = 2; getMeanNeighbours() = 2.0;"
                + "addPoint(0, 10) = 3; getMeanNeighbours() = 2.5; addPoint(5, 4) = 4; getMeanNeighbours() = 3.2;"
                + "remove(2) = 4; getMeanNeighbours() = 3.0; addPoint(-9, 3) = 2; addPoint(-7, -8) = 5;"
                + "getMeanNeighbours() = 3.6666666666666665");
        runs.run("48: checksum", "checksum() = 6727; addPoint(3, -4) = 0; checksum() = 6215177166;"
                + "setWeight(0, 9) = 0; checksum() = 6215185815; addWall(0, 0, 1, 1) = 0; checksum() = 6215185846;"
                + "setSpeed(0, 1, 1) = true; checksum() = 6215185846; undo() = 0; checksum() = 6758");
        runs.run("48: triangles are counted, whatever was asked before", "addPoint(0, 0) = 0; addPoint(1, 0) = 1;"
                + "addPoint(0, 1) = 2; checksum() = 4392024683503414661");
        runs.run("48: the numbers of points count, and triangles", THREE + "addPoint(0, 20) = 3; remove(1) = 3;"
                + "remove(0) = 2; checksum() = 5815864070793452; addPoint(-5, -5) = 0; countTriangles() = 1;"
                + "checksum() = 326719553570083341");
        runs.run("49: isSound", "isSound() = true; addPoint(0, 0) = 0; isSound() = true; addPoint(10, 0) = 1; isSound() = true;"
                + "addPoint(20, 0) = 2; isSound() = true; addPoint(10, 10) = 3; isSound() = true; addPoint(10, -10) = 4;"
                + "isSound() = true; remove(3) = 4; isSound() = true");
    }
}
