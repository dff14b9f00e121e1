/** Promises 17 to 29: a test for each sentence with a boundary in it, such as no points, points on a line or on a circle. */
final class TriangleEdges {
    private static final String SQUARE = "addPoint(0, 0) = 0; addPoint(10, 0) = 1; addPoint(10, 10) = 2; addPoint(0, 10) = 3;";
    private static final String LINE = "addPoint(5, 5) = 0; addPoint(-5, -5) = 1; addPoint(0, 0) = 2; addPoint(9, 9) = 3;";
    /** Twelve places on the circle of 25 round the middle, not in their order. */
    private static final String CIRCLE = "addPoint(0, 5) = 0; addPoint(5, 0) = 1; addPoint(-5, 0) = 2; addPoint(3, -4) = 3;"
            + "addPoint(0, -5) = 4; addPoint(3, 4) = 5; addPoint(4, 3) = 6; addPoint(-4, 3) = 7; addPoint(-3, 4) = 8;"
            + "addPoint(4, -3) = 9; addPoint(-3, -4) = 10; addPoint(-4, -3) = 11;";
    /** Four triangles, one in the other. */
    private static final String NEST = "addPoint(0, 10) = 0; addPoint(-10, -10) = 1; addPoint(10, -10) = 2; addPoint(0, 40) = 3;"
            + "addPoint(-40, -40) = 4; addPoint(40, -40) = 5; addPoint(0, 20) = 6; addPoint(-20, -20) = 7; addPoint(20, -20) = 8;"
            + "addPoint(0, 30) = 9; addPoint(-30, -30) = 10; addPoint(30, -30) = 11;";

    private TriangleEdges() {
    }

    /** Each argument of a call with two points is a number that is free, below 0, or too high. */
    private static void noSuchPointOfTwo(Runs runs, String call) {
        runs.run(call + "0, 0) = throws.IndexOutOfBoundsException;" + SQUARE
                + call + "4, 0) = throws.IndexOutOfBoundsException;" + call + "0, 4) = throws.IndexOutOfBoundsException;"
                + call + "-1, 0) = throws.IndexOutOfBoundsException;" + call + "0, -1) = throws.IndexOutOfBoundsException;"
                + call + "12, 0) = throws.IndexOutOfBoundsException;" + call + "0, 12) = throws.IndexOutOfBoundsException;"
                + call + "2147483647, 0) = throws.IndexOutOfBoundsException;" + call + "0, -2147483648) = throws.IndexOutOfBoundsException;"
                + "remove(1) = 3;" + call + "1, 0) = throws.IndexOutOfBoundsException;" + call + "0, 1) = throws.IndexOutOfBoundsException;"
                + call + "1, 1) = throws.IndexOutOfBoundsException");
    }

    private static void noSuchPoint(Runs runs, String call) {
        runs.run(call + "(0) = throws.IndexOutOfBoundsException;" + SQUARE + call + "(4) = throws.IndexOutOfBoundsException;"
                + call + "(11) = throws.IndexOutOfBoundsException;" + call + "(12) = throws.IndexOutOfBoundsException;"
                + call + "(-1) = throws.IndexOutOfBoundsException;" + call + "(32) = throws.IndexOutOfBoundsException;"
                + call + "(2147483647) = throws.IndexOutOfBoundsException;" + call + "(-2147483648) = throws.IndexOutOfBoundsException;"
                + "remove(1) = 3;" + call + "(1) = throws.IndexOutOfBoundsException");
    }

    static void promise17_upToTwoPointsHaveNone(Runs runs) {
        runs.run("countTriangles() = 0; addPoint(0, 0) = 0; countTriangles() = 0; addPoint(1, 0) = 1; countTriangles() = 0;"
                + "addPoint(1, 1) = 2; countTriangles() = 1; remove(0) = 2; countTriangles() = 0");
    }

    static void promise17_pointsOnOneLineHaveNone(Runs runs) {
        runs.run(PointEdges.TWELVE + "countTriangles() = 0; move(5, 5, 1) = 1; countTriangles() = 10; move(5, 5, 0) = 1;"
                + "countTriangles() = 0");
    }

    static void promise17_fourOnACircleHaveTwo(Runs runs) {
        runs.run(SQUARE + "countTriangles() = 2; move(2, 11, 10) = 1; countTriangles() = 2; move(2, 5, 5) = 61;"
                + "countTriangles() = 2");
    }

    static void promise17_twelveOnACircleHaveTen(Runs runs) {
        runs.run(CIRCLE + "countTriangles() = 10; move(4, 0, 0) = 25; countTriangles() = 11");
    }

    static void promise17_twelveInATriangleHaveNineteen(Runs runs) {
        runs.run("addPoint(-100, -100) = 0; addPoint(100, -99) = 1; addPoint(0, 100) = 2; addPoint(0, 0) = 3; addPoint(7, 13) = 4;"
                + "addPoint(-11, 5) = 5; addPoint(20, -31) = 6; addPoint(-23, -40) = 7; addPoint(3, 44) = 8; addPoint(31, -3) = 9;"
                + "addPoint(-2, -61) = 10; addPoint(12, 27) = 11; countTriangles() = 19; isSound() = true");
    }

    static void promise18_theOrderOfTheThreeDoesNotCount(Runs runs) {
        runs.run(SQUARE + "isTriangle(0, 1, 2) = true; isTriangle(0, 2, 1) = true; isTriangle(1, 0, 2) = true;"
                + "isTriangle(1, 2, 0) = true; isTriangle(2, 0, 1) = true; isTriangle(2, 1, 0) = true");
    }

    static void promise18_thePointTwiceIsNone(Runs runs) {
        runs.run(SQUARE + "isTriangle(0, 0, 1) = false; isTriangle(0, 1, 0) = false; isTriangle(1, 0, 0) = false;"
                + "isTriangle(2, 2, 2) = false");
    }

    static void promise18_threeOnALineAreNone(Runs runs) {
        runs.run(LINE + "isTriangle(0, 1, 2) = false; isTriangle(0, 2, 3) = false; addPoint(0, 9) = 4; isTriangle(0, 1, 2) = false;"
                + "isTriangle(0, 2, 4) = true; isTriangle(0, 1, 4) = false");
    }

    static void promise18_aPointWithinTheCircleLeavesNone(Runs runs) {
        runs.run("addPoint(0, 0) = 0; addPoint(10, 0) = 1; addPoint(0, 10) = 2; isTriangle(0, 1, 2) = true; addPoint(9, 9) = 3;"
                + "isTriangle(0, 1, 2) = false; isTriangle(0, 1, 3) = true; isTriangle(0, 2, 3) = true; move(3, 11, 11) = 8;"
                + "isTriangle(0, 1, 2) = true; isTriangle(1, 2, 3) = true");
    }

    static void promise18_aPointOnTheCircleLeavesTheFanFromTheLowestNumber(Runs runs) {
        runs.run("addPoint(0, 0) = 0; addPoint(10, 0) = 1; addPoint(0, 10) = 2; addPoint(10, 10) = 3; isTriangle(0, 1, 2) = false;"
                + "isTriangle(0, 1, 3) = true; isTriangle(0, 2, 3) = true; isTriangle(1, 2, 3) = false; remove(0) = 3;"
                + "isTriangle(1, 2, 3) = true; addPoint(20, 0) = 0; isTriangle(1, 2, 3) = true; isTriangle(0, 1, 3) = true;"
                + "isTriangle(0, 1, 2) = false; addPoint(20, 10) = 4; isTriangle(0, 1, 3) = true; isTriangle(0, 3, 4) = true;"
                + "isTriangle(0, 1, 4) = false");
    }

    static void promise18_theFanGoesSideBySideInTheOrderRound(Runs runs) {
        runs.run(CIRCLE + "isTriangle(0, 8, 7) = true; isTriangle(0, 7, 2) = true; isTriangle(0, 2, 11) = true;"
                + "isTriangle(0, 11, 10) = true; isTriangle(0, 10, 4) = true; isTriangle(0, 4, 3) = true; isTriangle(0, 3, 9) = true;"
                + "isTriangle(0, 9, 1) = true; isTriangle(0, 1, 6) = true; isTriangle(0, 6, 5) = true; isTriangle(0, 5, 8) = false;"
                + "isTriangle(0, 1, 2) = false; isTriangle(0, 8, 2) = false; isTriangle(1, 6, 5) = false; isTriangle(1, 2, 3) = false");
    }

    static void promise18_fansOnSeveralCirclesAtOnce(Runs runs) {
        runs.run("addPoint(20, 10) = 0; addPoint(0, 0) = 1; addPoint(10, 0) = 2; addPoint(20, 0) = 3; addPoint(0, 10) = 4;"
                + "addPoint(10, 10) = 5; countTriangles() = 4; isTriangle(0, 3, 2) = true; isTriangle(0, 2, 5) = true;"
                + "isTriangle(3, 2, 5) = false; isTriangle(1, 2, 5) = true; isTriangle(1, 5, 4) = true; isTriangle(2, 5, 4) = false;"
                + "isTriangle(1, 2, 4) = false");
    }

    static void promise18_aPointThatIsNotThereIsRefusedForAnyOfThem(Runs runs) {
        runs.run("isTriangle(0, 0, 0) = throws.IndexOutOfBoundsException;" + SQUARE
                + "isTriangle(4, 1, 2) = throws.IndexOutOfBoundsException; isTriangle(0, 4, 2) = throws.IndexOutOfBoundsException;"
                + "isTriangle(0, 1, 4) = throws.IndexOutOfBoundsException; isTriangle(-1, 1, 2) = throws.IndexOutOfBoundsException;"
                + "isTriangle(0, -1, 2) = throws.IndexOutOfBoundsException; isTriangle(0, 1, -1) = throws.IndexOutOfBoundsException;"
                + "isTriangle(12, 1, 2) = throws.IndexOutOfBoundsException; isTriangle(0, 12, 2) = throws.IndexOutOfBoundsException;"
                + "isTriangle(0, 1, 12) = throws.IndexOutOfBoundsException; isTriangle(32, 33, 34) = throws.IndexOutOfBoundsException;"
                + "isTriangle(4, 4, 4) = throws.IndexOutOfBoundsException; remove(1) = 3;"
                + "isTriangle(0, 1, 2) = throws.IndexOutOfBoundsException");
    }

    static void promise19_neitherOrderCounts(Runs runs) {
        runs.run(SQUARE + "areNeighbours(0, 2) = true; areNeighbours(2, 0) = true; areNeighbours(1, 3) = false;"
                + "areNeighbours(3, 1) = false; areNeighbours(3, 0) = true; areNeighbours(0, 3) = true");
    }

    static void promise19_noPointIsANeighbourOfItself(Runs runs) {
        runs.run("addPoint(0, 0) = 0; areNeighbours(0, 0) = false; addPoint(9, 0) = 1; addPoint(0, 9) = 2;"
                + "areNeighbours(0, 0) = false; areNeighbours(2, 2) = false");
    }

    static void promise19_twoPointsOrALineHaveNoNeighbours(Runs runs) {
        runs.run("addPoint(0, 0) = 0; addPoint(1, 0) = 1; areNeighbours(0, 1) = false; addPoint(2, 0) = 2;"
                + "areNeighbours(0, 1) = false; areNeighbours(1, 2) = false; addPoint(1, 1) = 3; areNeighbours(0, 1) = true;"
                + "areNeighbours(0, 2) = false; areNeighbours(0, 3) = true");
    }

    static void promise19_aPointThatIsNotThereIsRefusedForEither(Runs runs) {
        noSuchPointOfTwo(runs, "areNeighbours(");
    }

    static void promise20_noneForAFewPointsOrOnALine(Runs runs) {
        runs.run("addPoint(0, 0) = 0; countNeighbours(0) = 0; addPoint(1, 0) = 1; countNeighbours(0) = 0; countNeighbours(1) = 0;"
                + "addPoint(2, 0) = 2; countNeighbours(1) = 0; addPoint(1, 1) = 3; countNeighbours(1) = 3; countNeighbours(0) = 2");
    }

    static void promise20_allElevenOthers(Runs runs) {
        runs.run(CIRCLE + "countNeighbours(0) = 11; countNeighbours(5) = 2; countNeighbours(8) = 2; countNeighbours(1) = 3;"
                + "move(4, 0, 0) = 25; countNeighbours(4) = 11; countNeighbours(0) = 3");
    }

    static void promise20_aPointThatIsNotThereIsRefused(Runs runs) {
        noSuchPoint(runs, "countNeighbours");
    }

    static void promise21_graphsAreFour(Runs runs) {
        runs.run("addPoint(0, 0) = 0; addPoint(1, 0) = 1; isJoined('g', 0, 1) = true; isJoined('r', 0, 1) = true;"
                + "isJoined('n', 0, 1) = true; isJoined('t', 0, 1) = true; isJoined('e', 0, 1) = throws.IllegalArgumentException;"
                + "isJoined('G', 0, 1) = throws.IllegalArgumentException; isJoined('f', 0, 1) = throws.IllegalArgumentException;"
                + "isJoined('h', 0, 1) = throws.IllegalArgumentException; isJoined('m', 0, 1) = throws.IllegalArgumentException;"
                + "isJoined('o', 0, 1) = throws.IllegalArgumentException; isJoined('q', 0, 1) = throws.IllegalArgumentException;"
                + "isJoined('s', 0, 1) = throws.IllegalArgumentException; isJoined('u', 0, 1) = throws.IllegalArgumentException;"
                + "isJoined('a', 0, 1) = throws.IllegalArgumentException; isJoined(' ', 0, 1) = throws.IllegalArgumentException");
    }

    static void promise21_bothTheSameIsRefused(Runs runs) {
        runs.run(SQUARE + "isJoined('g', 0, 0) = throws.IllegalArgumentException; isJoined('r', 3, 3) = throws.IllegalArgumentException;"
                + "isJoined('n', 1, 1) = throws.IllegalArgumentException; isJoined('t', 2, 2) = throws.IllegalArgumentException");
    }

    static void promise21_aPointThatIsNotThereIsRefusedForEither(Runs runs) {
        noSuchPointOfTwo(runs, "isJoined('g', ");
        noSuchPointOfTwo(runs, "isJoined('t', ");
    }

    static void promise21_thePointsAreLookedAtAheadOfGraphAndSameness(Runs runs) {
        runs.run(SQUARE + "isJoined('x', 0, 4) = throws.IndexOutOfBoundsException; isJoined('x', 4, 0) = throws.IndexOutOfBoundsException;"
                + "isJoined('g', 4, 4) = throws.IndexOutOfBoundsException; isJoined('n', -1, -1) = throws.IndexOutOfBoundsException;"
                + "isJoined('x', 12, 12) = throws.IndexOutOfBoundsException; isJoined('x', 1, 1) = throws.IllegalArgumentException");
    }

    static void promise21_gWithAPointOnTheCircleIsJoined(Runs runs) {
        runs.run("addPoint(-5, 0) = 0; addPoint(5, 0) = 1; addPoint(3, 4) = 2; isJoined('g', 0, 1) = true; isJoined('g', 1, 0) = true;"
                + "move(2, 3, 3) = 1; isJoined('g', 0, 1) = false; isJoined('g', 1, 0) = false; move(2, 0, -5) = 73;"
                + "isJoined('g', 0, 1) = true; move(2, 0, 0) = 25; isJoined('g', 0, 1) = false; move(2, 6, 0) = 36;"
                + "isJoined('g', 0, 1) = true");
    }

    static void promise21_rWithAPointAsFarAsBothIsJoined(Runs runs) {
        runs.run("addPoint(0, 0) = 0; addPoint(5, 0) = 1; addPoint(3, 4) = 2; isJoined('r', 0, 1) = true; isJoined('r', 1, 0) = true;"
                + "move(2, 2, 4) = 1; isJoined('r', 0, 1) = true; move(2, 3, 3) = 2; isJoined('r', 0, 1) = false;"
                + "isJoined('r', 1, 0) = false; move(2, -1, 0) = 25; isJoined('r', 0, 1) = true; move(2, 1, 0) = 4;"
                + "isJoined('r', 0, 1) = false");
    }

    static void promise21_nIfOneIsTheNearestOfTheOther(Runs runs) {
        runs.run("addPoint(0, 0) = 0; addPoint(1, 0) = 1; addPoint(-3, 0) = 2; isJoined('n', 0, 1) = true; isJoined('n', 0, 2) = true;"
                + "isJoined('n', 2, 0) = true; isJoined('n', 1, 2) = false; isJoined('n', 2, 1) = false; move(2, 3, 0) = 36;"
                + "isJoined('n', 1, 2) = true; isJoined('n', 2, 1) = true; isJoined('n', 0, 2) = false");
    }

    static void promise21_nOfLikeNearOnesTheLowestNumber(Runs runs) {
        runs.run("addPoint(0, 0) = 0; addPoint(5, 0) = 1; addPoint(-5, 0) = 2; addPoint(8, 0) = 3; addPoint(-8, 0) = 4;"
                + "isJoined('n', 0, 1) = true; isJoined('n', 0, 2) = false; isJoined('n', 2, 0) = false; isJoined('n', 2, 4) = true;"
                + "remove(3) = 4; isJoined('n', 0, 1) = true; isJoined('n', 0, 2) = false; move(1, 6, 0) = 1;"
                + "isJoined('n', 0, 2) = true; isJoined('n', 0, 1) = true");
    }

    static void promise21_tOfLikeEdgesTheLowerNumbersFirst(Runs runs) {
        runs.run(SQUARE + "isJoined('t', 0, 1) = true; isJoined('t', 0, 3) = true; isJoined('t', 1, 2) = true;"
                + "isJoined('t', 2, 3) = false; isJoined('t', 3, 2) = false; isJoined('t', 0, 2) = false; move(0, 0, -1) = 1;"
                + "isJoined('t', 1, 2) = true; isJoined('t', 2, 3) = true; isJoined('t', 0, 1) = true; isJoined('t', 0, 3) = false");
    }

    static void promise21_tOfLikeEdgesWithTheSameLowerNumberTheLowerHigherOne(Runs runs) {
        runs.run("addPoint(0, 0) = 0; addPoint(7, 1) = 1; addPoint(3, 4) = 2; addPoint(4, -3) = 3; isJoined('t', 0, 2) = true;"
                + "isJoined('t', 0, 3) = true; isJoined('t', 1, 2) = true; isJoined('t', 1, 3) = false; isJoined('t', 0, 1) = false;"
                + "isJoined('t', 2, 3) = false");
    }

    static void promise21_neitherOrderCounts(Runs runs) {
        runs.run("addPoint(0, 0) = 0; addPoint(10, 0) = 1; addPoint(4, 3) = 2; isJoined('t', 0, 2) = true; isJoined('t', 2, 0) = true;"
                + "isJoined('t', 1, 2) = true; isJoined('t', 2, 1) = true; isJoined('t', 0, 1) = false; isJoined('t', 1, 0) = false;"
                + "isJoined('g', 2, 0) = true; isJoined('g', 1, 0) = false; isJoined('r', 2, 1) = true; isJoined('r', 1, 0) = false;"
                + "isJoined('n', 2, 1) = true; isJoined('n', 1, 2) = true; isJoined('n', 1, 0) = false");
    }

    static void promise22_graphsAreFour(Runs runs) {
        runs.run(SQUARE + "countJoined('g') = 6; countJoined('r') = 4; countJoined('n') = 3; countJoined('t') = 3;"
                + "countJoined('e') = throws.IllegalArgumentException; countJoined('G') = throws.IllegalArgumentException;"
                + "countJoined('f') = throws.IllegalArgumentException; countJoined('s') = throws.IllegalArgumentException;"
                + "countJoined('u') = throws.IllegalArgumentException; countJoined('m') = throws.IllegalArgumentException;"
                + "countJoined(' ') = throws.IllegalArgumentException");
    }

    static void promise22_upToOnePointHasNoEdges(Runs runs) {
        runs.run("countJoined('g') = 0; countJoined('r') = 0; countJoined('n') = 0; countJoined('t') = 0;"
                + "countJoined('x') = throws.IllegalArgumentException; addPoint(0, 0) = 0; countJoined('g') = 0; countJoined('r') = 0;"
                + "countJoined('n') = 0; countJoined('t') = 0; addPoint(1, 0) = 1; countJoined('g') = 1; countJoined('r') = 1;"
                + "countJoined('n') = 1; countJoined('t') = 1; remove(0) = 1; countJoined('n') = 0; countJoined('t') = 0");
    }

    static void promise22_twelveOnALine(Runs runs) {
        runs.run(PointEdges.TWELVE + "countJoined('g') = 11; countJoined('r') = 11; countJoined('n') = 11; countJoined('t') = 11");
    }

    static void promise22_twelveOnACircle(Runs runs) {
        runs.run(CIRCLE + "countJoined('g') = 18; countJoined('r') = 12; countJoined('n') = 8; countJoined('t') = 11");
    }

    static void promise23_upToOnePoint0(Runs runs) {
        runs.run("treeSum() = 0; addPoint(-100, 100) = 0; treeSum() = 0; addPoint(100, -100) = 1; treeSum() = 80000; remove(0) = 1;"
                + "treeSum() = 0; remove(1) = 0; treeSum() = 0");
    }

    static void promise23_onALineToo(Runs runs) {
        runs.run(PointEdges.TWELVE + "treeSum() = 11; move(5, 100, 0) = 9025; treeSum() = 7934");
    }

    static void promise23_everyEdgeOfTheTreeCountsOnce(Runs runs) {
        runs.run(SQUARE + "treeSum() = 300; addPoint(5, 5) = 4; treeSum() = 200; remove(4) = 4; treeSum() = 300");
    }

    static void promise24_theSamePointIsNoStep(Runs runs) {
        runs.run("addPoint(0, 0) = 0; steps(0, 0) = 0; addPoint(1, 0) = 1; steps(1, 1) = 0;" + "addPoint(2, 0) = 2; steps(2, 2) = 0;"
                + "addPoint(0, 1) = 3; steps(2, 2) = 0");
    }

    static void promise24_withoutAWayThereIsNone(Runs runs) {
        runs.run("addPoint(0, 0) = 0; addPoint(1, 0) = 1; steps(0, 1) = throws.NoSuchElementException; addPoint(2, 0) = 2;"
                + "steps(0, 2) = throws.NoSuchElementException; steps(1, 0) = throws.NoSuchElementException; addPoint(2, 1) = 3;"
                + "steps(0, 2) = 2; steps(0, 1) = 1; steps(0, 3) = 1; remove(3) = 3; steps(0, 2) = throws.NoSuchElementException");
    }

    static void promise24_theLongestWayOfTwelve(Runs runs) {
        runs.run("addPoint(0, 0) = 0; addPoint(5, 8) = 1; addPoint(10, 0) = 2; addPoint(15, 8) = 3; addPoint(20, 0) = 4;"
                + "addPoint(25, 8) = 5; addPoint(30, 0) = 6; addPoint(35, 8) = 7; addPoint(40, 0) = 8; addPoint(45, 8) = 9;"
                + "addPoint(50, 0) = 10; addPoint(55, 8) = 11; steps(0, 11) = 6; steps(11, 0) = 6; steps(0, 10) = 5; steps(0, 9) = 5;"
                + "steps(0, 1) = 1; steps(0, 2) = 1; steps(0, 3) = 2");
    }

    static void promise24_aPointThatIsNotThereIsRefusedForEither(Runs runs) {
        noSuchPointOfTwo(runs, "steps(");
    }

    static void promise24_thePointsAreLookedAtAheadOfTheWay(Runs runs) {
        runs.run(LINE + "steps(0, 4) = throws.IndexOutOfBoundsException; steps(4, 0) = throws.IndexOutOfBoundsException;"
                + "steps(4, 4) = throws.IndexOutOfBoundsException; steps(0, 1) = throws.NoSuchElementException");
    }

    static void promise25_allOfUpToTwoPoints(Runs runs) {
        runs.run("countHull() = 0; addPoint(0, 0) = 0; countHull() = 1; addPoint(0, 9) = 1; countHull() = 2; remove(0) = 1;"
                + "countHull() = 1; remove(1) = 0; countHull() = 0");
    }

    static void promise25_twoIfAllLieOnOneLine(Runs runs) {
        runs.run(LINE + "countHull() = 2; move(0, 5, 6) = 1; countHull() = 3; move(0, -1, -1) = 85; countHull() = 2;"
                + "move(0, 0, 1) = 5; countHull() = 3");
    }

    static void promise25_twoIfTwelveLieOnOneLine(Runs runs) {
        runs.run(PointEdges.TWELVE + "countHull() = 2; move(5, 5, 1) = 1; countHull() = 3");
    }

    static void promise25_pointsInTheMiddleOfSidesAreNotInIt(Runs runs) {
        runs.run(SQUARE + "addPoint(5, 0) = 4; addPoint(10, 5) = 5; addPoint(5, 10) = 6; addPoint(0, 5) = 7; addPoint(1, 0) = 8;"
                + "addPoint(10, 9) = 9; countHull() = 4; move(4, 5, -1) = 1; countHull() = 5");
    }

    static void promise25_allTwelveOnACircle(Runs runs) {
        runs.run(CIRCLE + "countHull() = 12; move(0, 0, 4) = 1; countHull() = 11");
    }

    static void promise26_theIndexIsFrom0(Runs runs) {
        runs.run(SQUARE + "hullAt(0) = 0; hullAt(1) = 1; hullAt(2) = 2; hullAt(3) = 3;"
                + "hullAt(-1) = throws.NoSuchElementException; hullAt(-2147483648) = throws.NoSuchElementException");
    }

    static void promise26_beyondTheLastOneThereIsNone(Runs runs) {
        runs.run(SQUARE + "hullAt(4) = throws.NoSuchElementException; hullAt(12) = throws.NoSuchElementException;"
                + "hullAt(2147483647) = throws.NoSuchElementException; remove(2) = 3; hullAt(2) = 3;"
                + "hullAt(3) = throws.NoSuchElementException");
    }

    static void promise26_withoutPointsThereIsNone(Runs runs) {
        runs.run("hullAt(0) = throws.NoSuchElementException; addPoint(0, 0) = 0; hullAt(0) = 0; hullAt(1) = throws.NoSuchElementException;"
                + "remove(0) = 0; hullAt(0) = throws.NoSuchElementException");
    }

    static void promise26_fromTheLowestOneByY(Runs runs) {
        runs.run("addPoint(-50, 3) = 0; addPoint(50, 2) = 1; addPoint(0, 60) = 2; hullAt(0) = 1; hullAt(1) = 2; hullAt(2) = 0;"
                + "move(0, -50, 1) = 4; hullAt(0) = 0; hullAt(1) = 1; hullAt(2) = 2");
    }

    static void promise26_ofLikeLowOnesByX(Runs runs) {
        runs.run("addPoint(9, 9) = 0; addPoint(8, -2) = 1; addPoint(-8, -2) = 2; addPoint(0, -2) = 3; hullAt(0) = 2; hullAt(1) = 1;"
                + "hullAt(2) = 0; hullAt(3) = throws.NoSuchElementException");
    }

    static void promise26_onALineTheTwoEnds(Runs runs) {
        runs.run(LINE + "hullAt(0) = 1; hullAt(1) = 3; hullAt(2) = throws.NoSuchElementException; remove(3) = 3; hullAt(1) = 0");
    }

    static void promise26_onALevelLineTheTwoEnds(Runs runs) {
        runs.run("addPoint(5, 7) = 0; addPoint(9, 7) = 1; addPoint(-5, 7) = 2; hullAt(0) = 2; hullAt(1) = 1;"
                + "hullAt(2) = throws.NoSuchElementException; remove(2) = 2; hullAt(0) = 0; hullAt(1) = 1");
    }

    static void promise26_theTwelfthOfTwelve(Runs runs) {
        runs.run(CIRCLE + "hullAt(0) = 4; hullAt(1) = 3; hullAt(2) = 9; hullAt(3) = 1; hullAt(4) = 6; hullAt(5) = 5; hullAt(6) = 0;"
                + "hullAt(7) = 8; hullAt(8) = 7; hullAt(9) = 2; hullAt(10) = 11; hullAt(11) = 10;"
                + "hullAt(12) = throws.NoSuchElementException");
    }

    static void promise27_noAreaForAFewPointsOrOnALine(Runs runs) {
        runs.run("hullArea() = 0; addPoint(0, 0) = 0; hullArea() = 0; addPoint(5, 5) = 1; hullArea() = 0; addPoint(9, 9) = 2;"
                + "hullArea() = 0; addPoint(9, 8) = 3; hullArea() = 9; remove(3) = 3; hullArea() = 0");
    }

    static void promise27_twiceTheAreaIsNotCut(Runs runs) {
        runs.run("addPoint(0, 0) = 0; addPoint(1, 0) = 1; addPoint(0, 1) = 2; hullArea() = 1; move(1, 3, 0) = 4; hullArea() = 3");
    }

    static void promise27_theWidestGround(Runs runs) {
        runs.run("addPoint(-100, -100) = 0; addPoint(100, 100) = 1; addPoint(100, -100) = 2; addPoint(-100, 100) = 3; hullArea() = 80000;"
                + "addPoint(0, 0) = 4; addPoint(0, -100) = 5; hullArea() = 80000; remove(0) = 5; hullArea() = 60000");
    }

    static void promise28_pointsOnTheSidesAreOfLayer0Too(Runs runs) {
        runs.run(SQUARE + "addPoint(5, 0) = 4; addPoint(10, 9) = 5; addPoint(5, 1) = 6; layer(4) = 0; layer(5) = 0; layer(6) = 1;"
                + "layer(0) = 0; layer(3) = 0");
    }

    static void promise28_allOfAFewPointsAreOfLayer0(Runs runs) {
        runs.run("addPoint(0, 0) = 0; layer(0) = 0; addPoint(1, 0) = 1; layer(0) = 0; layer(1) = 0; addPoint(0, 1) = 2; layer(2) = 0");
    }

    static void promise28_allOfALineAreOfLayer0(Runs runs) {
        runs.run(PointEdges.TWELVE + "layer(0) = 0; layer(5) = 0; layer(11) = 0; move(0, 5, 1) = 26; layer(0) = 0; layer(5) = 0;"
                + "move(0, 5, -1) = 4; move(1, 5, 1) = 17; layer(2) = 0; layer(3) = 1; layer(5) = 1; layer(10) = 1; layer(11) = 0");
    }

    static void promise28_fourLayersOfTwelve(Runs runs) {
        runs.run(NEST + "layer(0) = 3; layer(1) = 3; layer(2) = 3; layer(6) = 2; layer(8) = 2; layer(9) = 1; layer(11) = 1;"
                + "layer(3) = 0; layer(5) = 0; remove(4) = 11; layer(3) = 0; layer(10) = 0; layer(9) = 1; layer(7) = 1; layer(1) = 2;"
                + "layer(8) = 2; layer(0) = 3; layer(2) = 3");
    }

    static void promise28_oneLeftInTheMiddleIsALayerToo(Runs runs) {
        runs.run(SQUARE + "addPoint(5, 5) = 4; layer(4) = 1; addPoint(6, 5) = 5; layer(4) = 1; layer(5) = 1; addPoint(7, 5) = 6;"
                + "layer(5) = 1; move(4, 5, 6) = 1; layer(5) = 1");
    }

    static void promise28_aPointThatIsNotThereIsRefused(Runs runs) {
        noSuchPoint(runs, "layer");
    }

    static void promise29_aPointAlone(Runs runs) {
        runs.run("addPoint(3, 3) = 0; depth(0) = 1; addPoint(4, 4) = 1; depth(0) = 1; depth(1) = 1");
    }

    static void promise29_onALineTheFewerEnds(Runs runs) {
        runs.run(PointEdges.TWELVE + "depth(0) = 1; depth(1) = 2; depth(4) = 5; depth(5) = 6; depth(6) = 6; depth(7) = 5;"
                + "depth(11) = 1");
    }

    static void promise29_onAnUprightAndOnSlantingLines(Runs runs) {
        runs.run("addPoint(20, 10) = 0; addPoint(20, 20) = 1; addPoint(20, 0) = 2; depth(0) = 2; depth(1) = 1; depth(2) = 1;"
                + "move(0, 10, 10) = 100; move(2, 0, 0) = 400; depth(0) = 2; depth(1) = 1; depth(2) = 1; move(1, 0, 20) = 400;"
                + "move(2, 20, 0) = 400; depth(0) = 2; depth(1) = 1; depth(2) = 1; move(0, 10, 11) = 1; depth(0) = 1");
    }

    static void promise29_pointsOnTheLineAreCounted(Runs runs) {
        runs.run(SQUARE + "addPoint(5, 5) = 4; depth(4) = 3; move(4, 5, 0) = 25; depth(4) = 2; move(4, 5, 1) = 1; depth(4) = 2;"
                + "move(4, 5, -1) = 4; depth(4) = 1; depth(0) = 1");
    }

    static void promise29_theMiddleOfACircle(Runs runs) {
        runs.run(CIRCLE + "depth(0) = 1; depth(11) = 1; move(4, 0, 0) = 25; depth(4) = 6; remove(0) = 11; depth(4) = 6;"
                + "remove(1) = 10; depth(4) = 5");
    }

    static void promise29_aPointThatIsNotThereIsRefused(Runs runs) {
        noSuchPoint(runs, "depth");
    }
}
