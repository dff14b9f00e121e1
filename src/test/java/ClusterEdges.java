/** Promises 41 to 49: a test for each sentence with a boundary in it, such as how many are left, or a tie of centres. */
final class ClusterEdges {
    private static final String THREE = "addPoint(0, 0) = 0; addPoint(10, 0) = 1; addPoint(30, 0) = 2;";
    private static final String CHAIN = "addPoint(0, 0) = 0; addPoint(10, 0) = 1; addPoint(21, 0) = 2; addPoint(33, 0) = 3;";
    private static final String SQUARE = "addPoint(0, 0) = 0; addPoint(10, 0) = 1; addPoint(10, 10) = 2; addPoint(0, 10) = 3;";

    private ClusterEdges() {
    }

    static void promise41_lawsAreTwo(Runs runs) {
        runs.run(CHAIN + "cluster('a', 2, 2) = 0; cluster('z', 2, 2) = 2; cluster('b', 2, 2) = throws.IllegalArgumentException;"
                + "cluster('y', 2, 2) = throws.IllegalArgumentException; cluster('A', 2, 2) = throws.IllegalArgumentException;"
                + "cluster('Z', 2, 2) = throws.IllegalArgumentException; cluster('{', 2, 2) = throws.IllegalArgumentException;"
                + "cluster('m', 2, 2) = throws.IllegalArgumentException; cluster(' ', 2, 2) = throws.IllegalArgumentException");
    }

    static void promise41_manyIsFrom1ToAsManyAsThereArePoints(Runs runs) {
        runs.run(THREE + "cluster('a', 1, 2) = 0; cluster('a', 3, 2) = 2; cluster('a', 0, 2) = throws.IllegalArgumentException;"
                + "cluster('a', 4, 2) = throws.IllegalArgumentException; cluster('z', -1, 2) = throws.IllegalArgumentException;"
                + "cluster('z', 2147483647, 2) = throws.IllegalArgumentException; cluster('z', -2147483648, 2) = throws.IllegalArgumentException;"
                + "remove(0) = 2; cluster('a', 3, 2) = throws.IllegalArgumentException; cluster('a', 2, 2) = 2; cluster('a', 1, 2) = 1");
    }

    static void promise41_aPointAlone(Runs runs) {
        runs.run("addPoint(0, 0) = 0; cluster('a', 1, 0) = 0; cluster('z', 1, 0) = 0; cluster('a', 0, 0) = throws.IllegalArgumentException;"
                + "cluster('a', 2, 0) = throws.IllegalArgumentException");
    }

    static void promise41_aPointThatIsNotThereIsRefused(Runs runs) {
        runs.run("cluster('a', 1, 0) = throws.IndexOutOfBoundsException;" + THREE + "cluster('a', 1, 3) = throws.IndexOutOfBoundsException;"
                + "cluster('a', 1, -1) = throws.IndexOutOfBoundsException; cluster('a', 1, 12) = throws.IndexOutOfBoundsException;"
                + "cluster('z', 1, 33) = throws.IndexOutOfBoundsException; remove(1) = 2; cluster('z', 1, 1) = throws.IndexOutOfBoundsException");
    }

    static void promise41_thePointIsLookedAtAheadOfLawAndRange(Runs runs) {
        runs.run("cluster('x', 0, 0) = throws.IndexOutOfBoundsException;" + THREE + "cluster('x', 1, 3) = throws.IndexOutOfBoundsException;"
                + "cluster('a', 9, 3) = throws.IndexOutOfBoundsException; cluster('x', 0, -1) = throws.IndexOutOfBoundsException;"
                + "cluster('x', 13, 12) = throws.IndexOutOfBoundsException; cluster('x', 9, 0) = throws.IllegalArgumentException");
    }

    static void promise41_whenAllAreLeftEachIsOne(Runs runs) {
        runs.run(PointEdges.TWELVE + "cluster('a', 12, 0) = 0; cluster('a', 12, 5) = 5; cluster('z', 12, 11) = 11;"
                + "cluster('a', 13, 0) = throws.IllegalArgumentException; cluster('a', 1, 11) = 0; cluster('z', 1, 11) = 0;"
                + "cluster('z', 11, 1) = 0; cluster('z', 11, 2) = 2");
    }

    static void promise41_ofLikeDistancesTheLowestNumbersFirst(Runs runs) {
        runs.run("addPoint(0, 0) = 0; addPoint(20, 0) = 1; addPoint(10, 0) = 2; addPoint(30, 0) = 3; cluster('a', 3, 2) = 0;"
                + "cluster('a', 3, 1) = 1; cluster('a', 3, 3) = 3; cluster('z', 3, 2) = 0; cluster('z', 2, 3) = 1; cluster('z', 2, 2) = 0;"
                + "cluster('a', 2, 1) = 0; cluster('a', 2, 3) = 3");
    }

    static void promise41_ofLikeDistancesTheLowerClusterFirst(Runs runs) {
        runs.run("addPoint(0, 50) = 0; addPoint(0, 0) = 1; addPoint(10, 50) = 2; addPoint(10, 0) = 3; cluster('a', 3, 2) = 0;"
                + "cluster('a', 3, 3) = 3; move(0, -5, 50) = 25; move(2, 0, 10) = 1700; cluster('a', 3, 2) = 1; cluster('a', 3, 3) = 3;"
                + "cluster('z', 3, 3) = 3; cluster('z', 3, 2) = 1");
    }

    static void promise41_aClusterHasTheNumberOfItsLowestPoint(Runs runs) {
        runs.run("addPoint(90, 0) = 0; addPoint(50, 0) = 1; addPoint(0, 0) = 2; addPoint(51, 0) = 3; addPoint(1, 0) = 4;"
                + "cluster('a', 3, 4) = 2; cluster('a', 3, 3) = 1; cluster('a', 3, 0) = 0; cluster('a', 2, 3) = 0; cluster('a', 2, 4) = 2;"
                + "cluster('z', 2, 1) = 0; cluster('z', 1, 4) = 0");
    }

    static void promise42_lawsAreTwo(Runs runs) {
        runs.run(CHAIN + "joinedAt('a', 1) = 144; joinedAt('z', 1) = 1089; joinedAt('b', 1) = throws.IllegalArgumentException;"
                + "joinedAt('y', 1) = throws.IllegalArgumentException; joinedAt('A', 1) = throws.IllegalArgumentException;"
                + "joinedAt('Z', 1) = throws.IllegalArgumentException; joinedAt(' ', 1) = throws.IllegalArgumentException");
    }

    static void promise42_manyIsFrom1ToOneLessThanThereArePoints(Runs runs) {
        runs.run(THREE + "joinedAt('a', 1) = 400; joinedAt('a', 2) = 100; joinedAt('a', 3) = throws.IllegalArgumentException;"
                + "joinedAt('a', 0) = throws.IllegalArgumentException; joinedAt('z', -1) = throws.IllegalArgumentException;"
                + "joinedAt('z', 2147483647) = throws.IllegalArgumentException; joinedAt('z', -2147483648) = throws.IllegalArgumentException;"
                + "remove(0) = 2; joinedAt('a', 2) = throws.IllegalArgumentException; joinedAt('z', 1) = 400");
    }

    static void promise42_upToOnePointNoneAreJoined(Runs runs) {
        runs.run("joinedAt('a', 1) = throws.IllegalArgumentException; joinedAt('z', 0) = throws.IllegalArgumentException;"
                + "joinedAt('a', -1) = throws.IllegalArgumentException; addPoint(0, 0) = 0; joinedAt('a', 1) = throws.IllegalArgumentException;"
                + "joinedAt('z', 0) = throws.IllegalArgumentException; addPoint(3, 4) = 1; joinedAt('a', 1) = 25; joinedAt('z', 1) = 25");
    }

    static void promise42_twelvePoints(Runs runs) {
        runs.run(PointEdges.TWELVE + "joinedAt('a', 11) = 1; joinedAt('a', 1) = 1; joinedAt('z', 11) = 1; joinedAt('z', 1) = 121;"
                + "joinedAt('z', 6) = 1; joinedAt('z', 5) = 9; joinedAt('a', 12) = throws.IllegalArgumentException");
    }

    static void promise42_theFarthestOfAll(Runs runs) {
        runs.run("addPoint(-100, -100) = 0; addPoint(100, 100) = 1; joinedAt('a', 1) = 80000; joinedAt('z', 1) = 80000; addPoint(0, 0) = 2;"
                + "joinedAt('a', 1) = 20000; joinedAt('z', 1) = 80000");
    }

    static void promise43_manyIsFrom1To4(Runs runs) {
        runs.run(SQUARE + "addPoint(50, 0) = 4; centreDistance(1) = 1600; centreDistance(4) = 100; centreDistance(0) = throws.IllegalArgumentException;"
                + "centreDistance(5) = throws.IllegalArgumentException; centreDistance(-1) = throws.IllegalArgumentException;"
                + "centreDistance(2147483647) = throws.IllegalArgumentException; centreDistance(-2147483648) = throws.IllegalArgumentException");
    }

    static void promise43_fewerPointsAreRefused(Runs runs) {
        runs.run("centreDistance(1) = throws.NoSuchElementException; centreDistance(4) = throws.NoSuchElementException; addPoint(0, 0) = 0;"
                + "centreDistance(1) = 0; centreDistance(2) = throws.NoSuchElementException; addPoint(1, 0) = 1; centreDistance(2) = 0;"
                + "centreDistance(3) = throws.NoSuchElementException; addPoint(2, 0) = 2; centreDistance(3) = 0;"
                + "centreDistance(4) = throws.NoSuchElementException; addPoint(3, 0) = 3; centreDistance(4) = 0; remove(0) = 3;"
                + "centreDistance(4) = throws.NoSuchElementException");
    }

    static void promise43_theRangeIsLookedAtAheadOfThePoints(Runs runs) {
        runs.run("centreDistance(0) = throws.IllegalArgumentException; centreDistance(5) = throws.IllegalArgumentException;"
                + "addPoint(0, 0) = 0; centreDistance(5) = throws.IllegalArgumentException; centreDistance(-1) = throws.IllegalArgumentException");
    }

    static void promise43_fromTheFarthestOfAllTo0(Runs runs) {
        runs.run("addPoint(-100, -100) = 0; addPoint(100, 100) = 1; centreDistance(1) = 80000; centreDistance(2) = 0;"
                + "addPoint(100, -100) = 2; centreDistance(1) = 40000; addPoint(0, 0) = 3; centreDistance(1) = 20000;"
                + "centreDistance(2) = 20000; centreDistance(3) = 20000; centreDistance(4) = 0");
    }

    static void promise43_fourCentresForTwelve(Runs runs) {
        runs.run(PointEdges.TWELVE + "centreDistance(1) = 36; centreDistance(2) = 9; centreDistance(3) = 4; centreDistance(4) = 1");
    }

    static void promise44_manyIsFrom1To4(Runs runs) {
        runs.run(SQUARE + "centre(1, 0) = 0; centre(4, 3) = 3; centre(0, 0) = throws.IllegalArgumentException; centre(5, 0) = throws.IllegalArgumentException;"
                + "centre(5, 4) = throws.IllegalArgumentException; centre(-1, 0) = throws.IllegalArgumentException;"
                + "centre(2147483647, 0) = throws.IllegalArgumentException; centre(-2147483648, 0) = throws.IllegalArgumentException");
    }

    static void promise44_theIndexIsBelowTheFirstNumber(Runs runs) {
        runs.run(SQUARE + "centre(1, 0) = 0; centre(1, 1) = throws.IllegalArgumentException; centre(2, 1) = 1; centre(2, 2) = throws.IllegalArgumentException;"
                + "centre(3, 2) = 2; centre(3, 3) = throws.IllegalArgumentException; centre(4, 3) = 3; centre(4, 4) = throws.IllegalArgumentException;"
                + "centre(4, 2147483647) = throws.IllegalArgumentException");
    }

    static void promise44_theIndexIsFrom0ForTheLowestOne(Runs runs) {
        runs.run(SQUARE + "centre(4, 0) = 0; centre(4, 1) = 1; centre(4, 2) = 2; centre(4, -1) = throws.IllegalArgumentException;"
                + "centre(1, -1) = throws.IllegalArgumentException; centre(1, -2147483648) = throws.IllegalArgumentException");
    }

    static void promise44_fewerPointsAreRefused(Runs runs) {
        runs.run("centre(1, 0) = throws.NoSuchElementException; centre(4, 3) = throws.NoSuchElementException; addPoint(0, 0) = 0; centre(1, 0) = 0;"
                + "centre(2, 0) = throws.NoSuchElementException; centre(2, 1) = throws.NoSuchElementException; addPoint(9, 0) = 1; centre(2, 1) = 1;"
                + "centre(3, 0) = throws.NoSuchElementException; remove(0) = 1; centre(1, 0) = 1; centre(2, 0) = throws.NoSuchElementException");
    }

    static void promise44_theRangesAreLookedAtAheadOfThePoints(Runs runs) {
        runs.run("centre(0, 0) = throws.IllegalArgumentException; centre(5, 0) = throws.IllegalArgumentException;"
                + "centre(1, 1) = throws.IllegalArgumentException; centre(4, -1) = throws.IllegalArgumentException;"
                + "centre(4, 4) = throws.IllegalArgumentException; centre(4, 0) = throws.NoSuchElementException");
    }

    static void promise44_ofSeveralThoseWithTheLowestNumbersFirstTheLowestOne(Runs runs) {
        runs.run(SQUARE + "centre(1, 0) = 0; centre(2, 0) = 0; centre(2, 1) = 1; centre(3, 0) = 0; centre(3, 1) = 1; centre(3, 2) = 2;"
                + "remove(0) = 3; centre(1, 0) = 2; addPoint(5, 5) = 0; centre(1, 0) = 0; centre(2, 0) = 0; centre(2, 1) = 1");
    }

    static void promise44_theLowestOneCountsAheadOfTheOtherOnes(Runs runs) {
        runs.run("addPoint(40, 0) = 0; addPoint(1, 0) = 1; addPoint(0, 0) = 2; addPoint(-1, 0) = 3; addPoint(41, 0) = 4;"
                + "centreDistance(2) = 1; centre(2, 0) = 0; centre(2, 1) = 2; move(0, 42, 0) = 4; centre(2, 0) = 0; centre(2, 1) = 2;"
                + "centre(1, 0) = 1");
    }

    static void promise44_theLowestOneWithAHighSecondOneGoesAheadOfTwoInTheMiddle(Runs runs) {
        runs.run("addPoint(0, 0) = 0; addPoint(50, 0) = 1; addPoint(2, 0) = 2; addPoint(52, 0) = 3; addPoint(1, 0) = 4; addPoint(51, 0) = 5;"
                + "centreDistance(2) = 1; centre(2, 0) = 4; centre(2, 1) = 5; remove(2) = 5; centreDistance(2) = 1; centre(2, 0) = 0;"
                + "centre(2, 1) = 5; remove(3) = 4; centre(2, 0) = 0; centre(2, 1) = 1");
    }

    static void promise44_centresOfTwelve(Runs runs) {
        runs.run(PointEdges.TWELVE + "centre(1, 0) = 5; centre(2, 0) = 1; centre(2, 1) = 8; centre(3, 0) = 0; centre(3, 1) = 4;"
                + "centre(3, 2) = 9; centre(4, 0) = 1; centre(4, 1) = 4; centre(4, 2) = 7; centre(4, 3) = 10");
    }

    static void promise45_theDistanceIsFrom0To99999(Runs runs) {
        runs.run(THREE + "countDiscs(0) = 3; countDiscs(99999) = 1; countDiscs(-1) = throws.IllegalArgumentException;"
                + "countDiscs(100000) = throws.IllegalArgumentException; countDiscs(2147483647) = throws.IllegalArgumentException;"
                + "countDiscs(-2147483648) = throws.IllegalArgumentException");
    }

    static void promise45_withoutPointsNoDiscs(Runs runs) {
        runs.run("countDiscs(0) = 0; countDiscs(99999) = 0; countDiscs(-1) = throws.IllegalArgumentException;"
                + "countDiscs(100000) = throws.IllegalArgumentException; addPoint(0, 0) = 0; countDiscs(0) = 1; remove(0) = 0; countDiscs(0) = 0");
    }

    static void promise45_placesAtTheDistanceAreCovered(Runs runs) {
        runs.run("addPoint(0, 0) = 0; addPoint(3, 4) = 1; addPoint(-5, 0) = 2; countDiscs(24) = 3; countDiscs(25) = 1;"
                + "addPoint(100, 100) = 3; move(0, -100, -100) = 20000; remove(1) = 3; remove(2) = 2; countDiscs(79999) = 2;"
                + "countDiscs(80000) = 1");
    }

    static void promise45_distance0TakesADiscEach(Runs runs) {
        runs.run(PointEdges.TWELVE + "countDiscs(0) = 12; countDiscs(1) = 4; countDiscs(4) = 3; countDiscs(9) = 2; countDiscs(35) = 2;"
                + "countDiscs(36) = 1");
    }

    static void promise45_fewestThoughTheLowestCoversAsMany(Runs runs) {
        runs.run("addPoint(2, 0) = 0; addPoint(0, 0) = 1; addPoint(1, 0) = 2; addPoint(3, 0) = 3; addPoint(4, 0) = 4; addPoint(5, 0) = 5;"
                + "countDiscs(1) = 2; countDiscs(0) = 6; countDiscs(4) = 2; countDiscs(8) = 2; countDiscs(9) = 1");
    }

    static void promise46_withoutPointsThereIsNoShare(Runs runs) {
        runs.run("getHullShare() = throws.ArithmeticException; addPoint(0, 0) = 0; getHullShare() = 1.0; remove(0) = 0;"
                + "getHullShare() = throws.ArithmeticException");
    }

    static void promise46_allOfUpToThreePointsButTwoOfALine(Runs runs) {
        runs.run("addPoint(0, 0) = 0; getHullShare() = 1.0; addPoint(1, 0) = 1; getHullShare() = 1.0; addPoint(2, 0) = 2;"
                + "getHullShare() = 0.6666667; move(2, 2, 1) = 1; getHullShare() = 1.0");
    }

    static void promise46_pointsInTheMiddleOfSidesAreNoCorners(Runs runs) {
        runs.run(SQUARE + "getHullShare() = 1.0; addPoint(5, 0) = 4; getHullShare() = 0.8; addPoint(5, 5) = 5; getHullShare() = 0.6666667;"
                + "addPoint(0, 5) = 6; getHullShare() = 0.5714286");
    }

    static void promise46_twoOfTwelve(Runs runs) {
        runs.run(PointEdges.TWELVE + "getHullShare() = 0.16666667");
    }

    static void promise47_withoutPointsThereIsNoMean(Runs runs) {
        runs.run("getMeanNeighbours() = throws.ArithmeticException; addPoint(0, 0) = 0; getMeanNeighbours() = 0.0; remove(0) = 0;"
                + "getMeanNeighbours() = throws.ArithmeticException");
    }

    static void promise47_0WithoutTriangles(Runs runs) {
        runs.run(PointEdges.TWELVE + "getMeanNeighbours() = 0.0; move(5, 5, 1) = 1; getMeanNeighbours() = 3.5");
    }

    static void promise47_theMeanIsNotCut(Runs runs) {
        runs.run(SQUARE + "getMeanNeighbours() = 2.5; addPoint(5, 4) = 4; getMeanNeighbours() = 3.2; remove(0) = 4; getMeanNeighbours() = 2.5;"
                + "remove(3) = 3; getMeanNeighbours() = 2.0");
    }

    static void promise47_bothAreConvertedToDouble(Runs runs) {
        runs.run("addPoint(0, 0) = 0; addPoint(10, 0) = 1; addPoint(-9, 3) = 2; addPoint(0, 10) = 3; addPoint(5, 4) = 4; addPoint(-7, -8) = 5;"
                + "getMeanNeighbours() = 3.6666666666666665");
    }

    static void promise48_7AtFirst(Runs runs) {
        runs.run("checksum() = 6727; addPoint(5, 5) = 0; undo() = 0; checksum() = 6727");
    }

    static void promise48_numbersPlacesAndWeightsInTheirOrder(Runs runs) {
        runs.run("addPoint(1, 2) = 0; setWeight(0, 3) = 0; addPoint(-4, 5) = 1; setWeight(1, 6) = 0; checksum() = 5738308612732101;"
                + "remove(0) = 1; checksum() = 6237615555; addPoint(-100, -100) = 0; remove(1) = 1; checksum() = 6117194567;"
                + "setWeight(0, 999) = 0; checksum() = 6118154606");
    }

    static void promise48_countsWalls(Runs runs) {
        runs.run("addWall(0, 0, 1, 1) = 0; checksum() = 6758; addWall(0, 0, 1, 1) = 1; checksum() = 6789; dropWall() = 1; dropWall() = 0;"
                + "checksum() = 6727");
    }

    static void promise48_countsTenWalls(Runs runs) {
        StringBuilder text = new StringBuilder();
        for (int wall = 0; wall < 10; wall++) {
            text.append("addWall(").append(wall).append(", 0, 5, 5) = ").append(wall).append(';');
        }
        runs.run(text + "checksum() = 7037; addWall(0, 0, 1, 1) = throws.IllegalStateException; checksum() = 7037");
    }

    static void promise48_countsTriangles(Runs runs) {
        runs.run("addPoint(0, 0) = 0; addPoint(1, 0) = 1; addPoint(0, 1) = 2; checksum() = 4392024683503414661; move(2, 2, 0) = 5;"
                + "checksum() = 4392024683505231911");
    }

    static void promise48_wrapsAroundBeyondTheGreatestLong(Runs runs) {
        runs.run(PointEdges.TWELVE + "checksum() = 3769504482890479751; move(5, 5, 1) = 1; checksum() = 9071434557764337648;"
                + "remove(11) = 11; undo() = 13; checksum() = 9071434557764337648");
    }

    static void promise48_wrapsAroundBelow0(Runs runs) {
        runs.run("addPoint(0, 0) = 0; addPoint(1, 0) = 1; addPoint(2, 0) = 2; addPoint(3, 0) = 3; checksum() = 1600575958030355719;"
                + "addPoint(4, 0) = 4; checksum() = -8986778341527916025; addPoint(5, 0) = 5; checksum() = 6785920904237303591;"
                + "addPoint(6, 0) = 6; checksum() = -8798247354362626969");
    }

    static void promise48_speedsDoNotCount(Runs runs) {
        runs.run("addPoint(-100, -100) = 0; setSpeed(0, 9, 9) = true; checksum() = 6117194567; setSpeed(0, 0, 1) = false;"
                + "checksum() = 6117194567; pass(1) = 1; checksum() = 6117224358");
    }

    static void promise49_holdsForAFewPointsAndOnALine(Runs runs) {
        runs.run("isSound() = true; addPoint(0, 0) = 0; isSound() = true; addPoint(1, 0) = 1; isSound() = true; addPoint(2, 0) = 2;"
                + "isSound() = true; addPoint(2, 1) = 3; isSound() = true; remove(3) = 3; isSound() = true");
    }

    static void promise49_holdsForTwelveOnALine(Runs runs) {
        runs.run(PointEdges.TWELVE + "isSound() = true; move(0, 0, 1) = 1; isSound() = true; undo() = 12; isSound() = true");
    }

    static void promise49_holdsForTwelveOnACircleAndInRows(Runs runs) {
        Nearestward circle = new Nearestward();
        Nearestward rows = new Nearestward();
        int[][] places = {{0, 5}, {5, 0}, {-5, 0}, {3, -4}, {0, -5}, {3, 4}, {4, 3}, {-4, 3}, {-3, 4}, {4, -3}, {-3, -4}, {-4, -3}};
        for (int point = 0; point < 12; point++) {
            circle.addPoint(places[point][0], places[point][1]);
            rows.addPoint(point % 4, point / 4);
            runs.expect(circle.isSound() && rows.isSound(), "it is not sound with " + (point + 1) + " points");
        }
        runs.run(SQUARE + "isSound() = true");
    }

    static void promise49_holdsAfterPassingAndTakingBack(Runs runs) {
        runs.run(SQUARE + "setSpeed(2, -1, -1) = true; pass(5) = 1; isSound() = true; countTriangles() = 2; pass(4) = 1; isSound() = true;"
                + "countTriangles() = 3; undo() = 3; isSound() = true; countTriangles() = 1");
    }
}
