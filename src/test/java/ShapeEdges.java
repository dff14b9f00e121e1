/** Promises 30 to 40: a test for each sentence with a boundary in it, such as a number just great enough, or a wall just met. */
final class ShapeEdges {
    private static final String SQUARE = "addPoint(0, 0) = 0; addPoint(10, 0) = 1; addPoint(10, 10) = 2; addPoint(0, 10) = 3;";
    private static final String NINE_WALLS = "addWall(0, 0, 1, 1) = 0; addWall(0, 0, 1, 2) = 1; addWall(0, 0, 1, 3) = 2;"
            + "addWall(0, 0, 1, 4) = 3; addWall(0, 0, 1, 5) = 4; addWall(0, 0, 1, 6) = 5; addWall(0, 0, 1, 7) = 6;"
            + "addWall(0, 0, 1, 8) = 7; addWall(0, 0, 1, 9) = 8;";

    private ShapeEdges() {
    }

    static void promise30_qIsFrom0To99999(Runs runs) {
        runs.run(SQUARE + "countParts(0) = 4; countParts(99999) = 1; countParts(-1) = throws.IllegalArgumentException;"
                + "countParts(100000) = throws.IllegalArgumentException; countParts(2147483647) = throws.IllegalArgumentException;"
                + "countParts(-2147483648) = throws.IllegalArgumentException");
    }

    static void promise30_withoutPointsNoParts(Runs runs) {
        runs.run("countParts(0) = 0; countParts(99999) = 0; countParts(-1) = throws.IllegalArgumentException;"
                + "countParts(100000) = throws.IllegalArgumentException");
    }

    static void promise30_pointsWithoutEdgesArePartsEach(Runs runs) {
        runs.run("addPoint(0, 0) = 0; countParts(99999) = 1; addPoint(1, 0) = 1; countParts(99999) = 2; addPoint(2, 0) = 2;"
                + "countParts(99999) = 3; addPoint(1, 1) = 3; countParts(99999) = 1");
    }

    static void promise30_aQuarterOfTheDistanceIsNotCut(Runs runs) {
        runs.run("addPoint(0, 0) = 0; addPoint(1, 0) = 1; addPoint(50, 90) = 2; countParts(0) = 3; countParts(1) = 2; move(1, 3, 0) = 4;"
                + "countParts(2) = 3; countParts(3) = 2; move(1, 4, 0) = 1; countParts(3) = 3; countParts(4) = 2");
    }

    static void promise30_neighboursAloneAreJoined(Runs runs) {
        runs.run("addPoint(-20, 0) = 0; addPoint(20, 0) = 1; addPoint(0, 3) = 2; addPoint(0, -3) = 3; areNeighbours(0, 1) = false;"
                + "countParts(8) = 4; countParts(102) = 3; countParts(103) = 1; countParts(9) = 3; areNeighbours(2, 3) = true");
    }

    static void promise30_theWidestEdge(Runs runs) {
        runs.run("addPoint(-100, -100) = 0; addPoint(100, 100) = 1; addPoint(99, 100) = 2; countParts(19900) = 2;"
                + "countParts(19899) = 2; countParts(0) = 3; countParts(19901) = 1; countParts(20000) = 1; countHoles(20000) = 1");
    }

    static void promise31_qIsFrom0To99999(Runs runs) {
        runs.run(SQUARE + "countHoles(0) = 0; countHoles(99999) = 0; countHoles(-1) = throws.IllegalArgumentException;"
                + "countHoles(100000) = throws.IllegalArgumentException; countHoles(2147483647) = throws.IllegalArgumentException;"
                + "countHoles(-2147483648) = throws.IllegalArgumentException");
    }

    static void promise31_withoutTrianglesNoHoles(Runs runs) {
        runs.run("countHoles(0) = 0; countHoles(99999) = 0; addPoint(0, 0) = 0; countHoles(99999) = 0; addPoint(1, 0) = 1;"
                + "countHoles(99999) = 0; addPoint(2, 0) = 2; countHoles(99999) = 0; countHoles(-1) = throws.IllegalArgumentException");
    }

    static void promise31_aRadiusJustGreatEnoughFills(Runs runs) {
        runs.run("addPoint(0, 5) = 0; addPoint(-4, -3) = 1; addPoint(4, -3) = 2; countHoles(19) = 0; countHoles(20) = 1;"
                + "countHoles(24) = 1; countHoles(25) = 0; countHoles(99999) = 0");
    }

    static void promise31_theSquareOfARadiusIsNotCut(Runs runs) {
        runs.run("addPoint(0, 0) = 0; addPoint(10, 0) = 1; addPoint(5, 9) = 2; countHoles(26) = 0; countHoles(27) = 1;"
                + "countHoles(34) = 1; countHoles(35) = 0");
    }

    static void promise31_twoTrianglesOfASquareFillAtOnce(Runs runs) {
        runs.run(SQUARE + "countHoles(24) = 0; countHoles(25) = 1; countHoles(49) = 1; countHoles(50) = 0; move(2, 11, 11) = 2;"
                + "countHoles(50) = 1; countHoles(51) = 1; countHoles(52) = 0");
    }

    static void promise31_severalHoles(Runs runs) {
        runs.run("addPoint(0, 0) = 0; addPoint(10, 0) = 1; addPoint(5, 9) = 2; addPoint(15, 9) = 3; addPoint(20, 0) = 4;"
                + "countHoles(24) = 0; countHoles(25) = 0; countHoles(27) = 3; countHoles(34) = 3; countHoles(35) = 0; remove(1) = 4;"
                + "countHoles(35) = 0");
    }

    static void promise31_aCircleTooWideForAllNumbersStaysAHole(Runs runs) {
        runs.run("addPoint(-100, 0) = 0; addPoint(100, 0) = 1; addPoint(0, 1) = 2; countHoles(9999) = 0; countHoles(10000) = 1;"
                + "countHoles(99999) = 1; move(2, 0, 20) = 361; countHoles(67599) = 1; countHoles(67600) = 0; move(2, 0, 16) = 16;"
                + "countHoles(99999) = 1; move(2, 0, 17) = 1; countHoles(88000) = 1; countHoles(99999) = 0");
    }

    static void promise32_fromXIsFromMinus100To100(Runs runs) {
        runs.run("addWall(100, 0, 1, 1) = 0; addWall(-100, 0, 1, 1) = 1; addWall(101, 0, 1, 1) = throws.IllegalArgumentException;"
                + "addWall(-101, 0, 1, 1) = throws.IllegalArgumentException; addWall(2147483647, 0, 1, 1) = throws.IllegalArgumentException;"
                + "addWall(-2147483648, 0, 1, 1) = throws.IllegalArgumentException; dropWall() = 1");
    }

    static void promise32_fromYIsFromMinus100To100(Runs runs) {
        runs.run("addWall(0, 100, 1, 1) = 0; addWall(0, -100, 1, 1) = 1; addWall(0, 101, 1, 1) = throws.IllegalArgumentException;"
                + "addWall(0, -101, 1, 1) = throws.IllegalArgumentException; addWall(0, 2147483647, 1, 1) = throws.IllegalArgumentException;"
                + "addWall(0, -2147483648, 1, 1) = throws.IllegalArgumentException; dropWall() = 1");
    }

    static void promise32_toXIsFromMinus100To100(Runs runs) {
        runs.run("addWall(0, 0, 100, 1) = 0; addWall(0, 0, -100, 1) = 1; addWall(0, 0, 101, 1) = throws.IllegalArgumentException;"
                + "addWall(0, 0, -101, 1) = throws.IllegalArgumentException; addWall(0, 0, 2147483647, 1) = throws.IllegalArgumentException;"
                + "addWall(0, 0, -2147483648, 1) = throws.IllegalArgumentException; dropWall() = 1");
    }

    static void promise32_toYIsFromMinus100To100(Runs runs) {
        runs.run("addWall(0, 0, 1, 100) = 0; addWall(0, 0, 1, -100) = 1; addWall(0, 0, 1, 101) = throws.IllegalArgumentException;"
                + "addWall(0, 0, 1, -101) = throws.IllegalArgumentException; addWall(0, 0, 1, 2147483647) = throws.IllegalArgumentException;"
                + "addWall(0, 0, 1, -2147483648) = throws.IllegalArgumentException; dropWall() = 1");
    }

    static void promise32_bothEndsTheSameIsRefused(Runs runs) {
        runs.run("addWall(0, 0, 0, 0) = throws.IllegalArgumentException; addWall(-100, 100, -100, 100) = throws.IllegalArgumentException;"
                + "addWall(5, 5, 5, 6) = 0; addWall(5, 5, 6, 5) = 1; addWall(5, 6, 6, 5) = 2; dropWall() = 2");
    }

    static void promise32_numbersGoFrom0To9(Runs runs) {
        runs.run(NINE_WALLS + "addWall(0, 0, 2, 1) = 9; dropWall() = 9; dropWall() = 8; addWall(0, 0, 2, 1) = 8; addWall(0, 0, 2, 1) = 9");
    }

    static void promise32_anEleventhWallIsRefused(Runs runs) {
        runs.run(NINE_WALLS + "addWall(0, 0, 2, 1) = 9; addWall(0, 0, 2, 3) = throws.IllegalStateException;"
                + "addWall(0, 0, 1, 1) = throws.IllegalStateException; dropWall() = 9; addWall(0, 0, 2, 3) = 9");
    }

    static void promise32_rangeAndEndsAreLookedAtAheadOfTheTen(Runs runs) {
        runs.run(NINE_WALLS + "addWall(0, 0, 2, 1) = 9; addWall(101, 0, 2, 1) = throws.IllegalArgumentException;"
                + "addWall(0, 0, 2, -101) = throws.IllegalArgumentException; addWall(3, 3, 3, 3) = throws.IllegalArgumentException;"
                + "addWall(3, 3, 3, 4) = throws.IllegalStateException");
    }

    static void promise32_wallsMayMeetEachOtherAndPoints(Runs runs) {
        runs.run("addPoint(0, 0) = 0; addWall(0, 0, 5, 5) = 0; addWall(0, 0, 5, 5) = 1; addWall(5, 5, 0, 0) = 2; addWall(0, 5, 5, 0) = 3;"
                + "addPoint(3, 3) = 1; countPoints() = 2");
    }

    static void promise32_aRefusedWallChangesNothing(Runs runs) {
        runs.run("addPoint(-5, 0) = 0; addPoint(5, 0) = 1; addWall(0, 5, 0, 9) = 0; addWall(0, -101, 0, 5) = throws.IllegalArgumentException;"
                + "addWall(0, 0, 0, 0) = throws.IllegalArgumentException; countSeen(0) = 1; dropWall() = 0;"
                + "dropWall() = throws.NoSuchElementException");
    }

    static void promise32_aRefusedEleventhWallChangesNothing(Runs runs) {
        runs.run(NINE_WALLS + "addWall(0, 0, 2, 1) = 9; addPoint(-50, 90) = 0; addPoint(-40, 90) = 1;"
                + "addWall(-45, 80, -45, 100) = throws.IllegalStateException; sees(-50, 90, 1) = true; dropWall() = 9; dropWall() = 8");
    }

    static void promise33_withoutWallsThereIsNone(Runs runs) {
        runs.run("dropWall() = throws.NoSuchElementException; addWall(0, 0, 1, 1) = 0; dropWall() = 0;"
                + "dropWall() = throws.NoSuchElementException; addWall(0, 0, 1, 1) = 0");
    }

    static void promise33_theLastWallGoes(Runs runs) {
        runs.run("addPoint(-5, 0) = 0; addPoint(5, 0) = 1; addWall(-5, 5, 5, 5) = 0; addWall(0, -1, 0, 1) = 1; sees(-5, 0, 1) = false;"
                + "dropWall() = 1; sees(-5, 0, 1) = true; sees(0, 5, 1) = false; dropWall() = 0; sees(0, 5, 1) = true");
    }

    static void promise33_allTenGo(Runs runs) {
        runs.run(NINE_WALLS + "addWall(0, 0, 2, 1) = 9; dropWall() = 9; dropWall() = 8; dropWall() = 7; dropWall() = 6; dropWall() = 5;"
                + "dropWall() = 4; dropWall() = 3; dropWall() = 2; dropWall() = 1; dropWall() = 0; dropWall() = throws.NoSuchElementException");
    }

    static void promise34_xIsFromMinus100To100(Runs runs) {
        runs.run("addPoint(0, 0) = 0; sees(100, 0, 0) = true; sees(-100, 0, 0) = true; sees(101, 0, 0) = throws.IllegalArgumentException;"
                + "sees(-101, 0, 0) = throws.IllegalArgumentException; sees(2147483647, 0, 0) = throws.IllegalArgumentException;"
                + "sees(-2147483648, 0, 0) = throws.IllegalArgumentException");
    }

    static void promise34_yIsFromMinus100To100(Runs runs) {
        runs.run("addPoint(0, 0) = 0; sees(0, 100, 0) = true; sees(0, -100, 0) = true; sees(0, 101, 0) = throws.IllegalArgumentException;"
                + "sees(0, -101, 0) = throws.IllegalArgumentException; sees(0, 2147483647, 0) = throws.IllegalArgumentException;"
                + "sees(0, -2147483648, 0) = throws.IllegalArgumentException");
    }

    static void promise34_aPointThatIsNotThereIsRefused(Runs runs) {
        runs.run("sees(0, 0, 0) = throws.IndexOutOfBoundsException; addPoint(0, 0) = 0; addPoint(1, 1) = 1; remove(0) = 1;"
                + "sees(0, 0, 0) = throws.IndexOutOfBoundsException; sees(0, 0, 2) = throws.IndexOutOfBoundsException;"
                + "sees(0, 0, -1) = throws.IndexOutOfBoundsException; sees(0, 0, 12) = throws.IndexOutOfBoundsException;"
                + "sees(0, 0, 33) = throws.IndexOutOfBoundsException; sees(0, 0, 1) = true");
    }

    static void promise34_thePointIsLookedAtAheadOfTheRange(Runs runs) {
        runs.run("addPoint(0, 0) = 0; sees(101, 0, 1) = throws.IndexOutOfBoundsException; sees(0, -101, -1) = throws.IndexOutOfBoundsException;"
                + "sees(500, 500, 12) = throws.IndexOutOfBoundsException");
    }

    static void promise34_withoutWallsAllIsSeen(Runs runs) {
        runs.run("addPoint(-100, -100) = 0; addPoint(0, 0) = 1; sees(100, 100, 0) = true; sees(-100, -100, 0) = true;"
                + "sees(50, 50, 0) = true");
    }

    static void promise34_aWallAcrossTheWay(Runs runs) {
        runs.run("addPoint(10, 0) = 0; addWall(5, -5, 5, 5) = 0; sees(0, 0, 0) = false; sees(4, 0, 0) = false; sees(6, 0, 0) = true;"
                + "sees(0, 10, 0) = false; sees(0, 11, 0) = true; sees(0, -11, 0) = true; sees(20, 0, 0) = true");
    }

    static void promise34_aWallJustMetWithItsEnd(Runs runs) {
        runs.run("addPoint(10, 0) = 0; addWall(5, 0, 5, 9) = 0; sees(0, 0, 0) = false; sees(0, -1, 0) = true; sees(0, 1, 0) = false;"
                + "dropWall() = 0; addWall(5, -9, 5, 0) = 0; sees(0, 0, 0) = false; sees(0, 1, 0) = true; sees(0, -1, 0) = false");
    }

    static void promise34_aWallThatEndsAtThePlace(Runs runs) {
        runs.run("addPoint(10, 0) = 0; addWall(0, 0, -9, 3) = 0; sees(0, 0, 0) = false; sees(1, 0, 0) = true; sees(0, -1, 0) = true;"
                + "sees(0, 1, 0) = true; sees(-9, 3, 0) = false");
    }

    static void promise34_aWallThatEndsAtThePoint(Runs runs) {
        runs.run("addPoint(10, 0) = 0; addWall(19, 3, 10, 0) = 0; sees(0, 0, 0) = false; sees(10, 0, 0) = false; move(0, 9, 0) = 1;"
                + "sees(0, 0, 0) = true; sees(10, 0, 0) = false; sees(10, -1, 0) = true");
    }

    static void promise34_aPlaceSeesThePointInItIfNoWallMeetsIt(Runs runs) {
        runs.run("addPoint(10, 0) = 0; sees(10, 0, 0) = true; addWall(9, 1, 11, 1) = 0; sees(10, 0, 0) = true; addWall(9, 0, 11, 0) = 1;"
                + "sees(10, 0, 0) = false; dropWall() = 1; addWall(10, 0, 11, 5) = 1; sees(10, 0, 0) = false; dropWall() = 1;"
                + "addWall(11, 0, 20, 0) = 1; sees(10, 0, 0) = true");
    }

    static void promise34_aPointInTheMiddleOfAWall(Runs runs) {
        runs.run("addPoint(5, 5) = 0; addWall(0, 0, 10, 10) = 0; sees(5, 5, 0) = false; sees(0, 9, 0) = false; sees(10, 10, 0) = false;"
                + "sees(5, 6, 0) = false; move(0, 5, 6) = 1; sees(5, 6, 0) = true; sees(0, 9, 0) = true; sees(9, 0, 0) = false");
    }

    static void promise34_aPlaceInTheMiddleOfAWall(Runs runs) {
        runs.run("addPoint(0, 9) = 0; addWall(0, 0, 10, 10) = 0; sees(5, 5, 0) = false; sees(4, 5, 0) = true; sees(5, 4, 0) = false;"
                + "sees(10, 10, 0) = false; sees(11, 11, 0) = true");
    }

    static void promise34_aWallOnTheWaysOwnLine(Runs runs) {
        runs.run("addPoint(10, 0) = 0; addWall(20, 0, 30, 0) = 0; sees(0, 0, 0) = true; sees(19, 0, 0) = true; sees(20, 0, 0) = false;"
                + "sees(31, 0, 0) = false; addWall(-9, 0, -5, 0) = 1; sees(-4, 0, 0) = true; sees(-5, 0, 0) = false;"
                + "sees(-10, 0, 0) = false; addWall(5, 0, 6, 0) = 2; sees(0, 0, 0) = false; sees(7, 0, 0) = true");
    }

    static void promise34_aWallOnAnUprightAndASlantingLine(Runs runs) {
        runs.run("addPoint(0, 10) = 0; addWall(0, 20, 0, 30) = 0; sees(0, 0, 0) = true; sees(0, 19, 0) = true; sees(0, 20, 0) = false;"
                + "sees(0, 40, 0) = false; move(0, 50, 50) = 4100; addWall(60, 60, 70, 70) = 1; sees(0, 0, 0) = true;"
                + "sees(59, 59, 0) = true; sees(60, 60, 0) = false; sees(71, 71, 0) = false");
    }

    static void promise34_longWallsAllButMet(Runs runs) {
        runs.run("addPoint(99, 98) = 0; addWall(-100, -100, 100, 100) = 0; sees(-99, -100, 0) = true; sees(-100, -99, 0) = false;"
                + "dropWall() = 0; addWall(-100, -100, 98, 97) = 0; sees(98, 98, 0) = true; sees(0, 0, 0) = true; sees(97, 95, 0) = true;"
                + "sees(-100, -100, 0) = false");
    }

    static void promise34_theTenthWallCounts(Runs runs) {
        runs.run("addPoint(-50, 90) = 0;" + NINE_WALLS + "sees(-40, 90, 0) = true; addWall(-45, 80, -45, 100) = 9;"
                + "sees(-40, 90, 0) = false; dropWall() = 9; sees(-40, 90, 0) = true");
    }

    static void promise35_aPointAloneSeesNoOtherOne(Runs runs) {
        runs.run("addPoint(0, 0) = 0; countSeen(0) = 0; addPoint(1, 0) = 1; countSeen(0) = 1; countSeen(1) = 1; remove(0) = 1;"
                + "countSeen(1) = 0");
    }

    static void promise35_withoutWallsAllOtherOnesAreSeenThroughPointsToo(Runs runs) {
        runs.run(PointEdges.TWELVE + "countSeen(0) = 11; countSeen(6) = 11; countSeen(11) = 11");
    }

    static void promise35_whoIsOnAWallSeesNobodyAndIsSeenByNobody(Runs runs) {
        runs.run("addPoint(0, 0) = 0; addPoint(10, 0) = 1; addPoint(0, 10) = 2; countSeen(0) = 2; addWall(0, 10, 0, 20) = 0;"
                + "countSeen(2) = 0; countSeen(0) = 1; countSeen(1) = 1; addWall(-5, 0, 5, 0) = 1; countSeen(0) = 0; countSeen(1) = 0");
    }

    static void promise35_aPointThatIsNotThereIsRefused(Runs runs) {
        runs.run("countSeen(0) = throws.IndexOutOfBoundsException; addPoint(0, 0) = 0; addPoint(1, 1) = 1; remove(0) = 1;"
                + "countSeen(0) = throws.IndexOutOfBoundsException; countSeen(2) = throws.IndexOutOfBoundsException;"
                + "countSeen(-1) = throws.IndexOutOfBoundsException; countSeen(12) = throws.IndexOutOfBoundsException;"
                + "countSeen(33) = throws.IndexOutOfBoundsException; countSeen(-2147483648) = throws.IndexOutOfBoundsException");
    }

    static void promise36_withoutPointsNoGuards(Runs runs) {
        runs.run("leastGuards() = 0; addWall(0, 0, 1, 1) = 0; leastGuards() = 0; addPoint(5, 5) = 0; leastGuards() = 1; remove(0) = 0;"
                + "leastGuards() = 0");
    }

    static void promise36_eachCountsAsSeenByItselfOnAWallToo(Runs runs) {
        runs.run("addPoint(0, 0) = 0; addWall(-1, 0, 1, 0) = 0; leastGuards() = 1; addPoint(5, 5) = 1; leastGuards() = 2;"
                + "addWall(5, 5, 6, 6) = 1; leastGuards() = 2; addPoint(9, -9) = 2; leastGuards() = 3; dropWall() = 1; dropWall() = 0;"
                + "leastGuards() = 1");
    }

    static void promise36_oneGuardForTwelve(Runs runs) {
        runs.run(PointEdges.TWELVE + "leastGuards() = 1");
    }

    static void promise36_twelveGuardsForTwelve(Runs runs) {
        runs.run(PointEdges.TWELVE + "addWall(0, 0, 100, 0) = 0; leastGuards() = 12; dropWall() = 0; addWall(1, 0, 100, 0) = 0;"
                + "leastGuards() = 12; dropWall() = 0; addWall(2, 0, 100, 0) = 0; leastGuards() = 11");
    }

    static void promise36_aRowOfRoomsAndOneAboveThemAll(Runs runs) {
        runs.run("addPoint(-30, 0) = 0; addPoint(-10, 0) = 1; addPoint(10, 0) = 2; addPoint(30, 0) = 3; addPoint(0, 50) = 4;"
                + "addWall(-20, -9, -20, 9) = 0; addWall(0, -9, 0, 9) = 1; addWall(20, -9, 20, 9) = 2; leastGuards() = 1;"
                + "addWall(-1, 50, 1, 50) = 3; leastGuards() = 5");
    }

    static void promise36_theLowestNumberAloneSeesAll(Runs runs) {
        runs.run("addPoint(0, 20) = 0; addPoint(-20, 0) = 1; addPoint(0, 0) = 2; addPoint(20, 0) = 3; addWall(-10, -5, -10, 5) = 0;"
                + "addWall(10, -5, 10, 5) = 1; countSeen(0) = 3; countSeen(1) = 1; leastGuards() = 1; move(0, 0, 1) = 361; leastGuards() = 3;"
                + "remove(0) = 3; leastGuards() = 3; addPoint(0, 20) = 0; leastGuards() = 1");
    }

    static void promise36_theHighestNumberAloneSeesAll(Runs runs) {
        runs.run("addPoint(-20, 0) = 0; addPoint(0, 0) = 1; addPoint(20, 0) = 2; addPoint(0, 20) = 3; addWall(-10, -5, -10, 5) = 0;"
                + "addWall(10, -5, 10, 5) = 1; leastGuards() = 1; remove(3) = 3; leastGuards() = 3");
    }

    static void promise36_fewestThoughAnotherOneSeesMost(Runs runs) {
        runs.run("addPoint(2, 0) = 0; addPoint(0, 6) = 1; addPoint(3, 2) = 2; addPoint(0, 3) = 3; addPoint(6, 2) = 4; addPoint(3, 5) = 5;"
                + "addWall(4, 0, 1, 2) = 0; addWall(2, 2, 1, 5) = 1; addWall(5, 4, 4, 4) = 2; countSeen(0) = 1; countSeen(1) = 3;"
                + "countSeen(2) = 2; countSeen(3) = 2; countSeen(4) = 2; countSeen(5) = 2; leastGuards() = 2");
    }

    static void promise37_xIsFromMinus9To9(Runs runs) {
        runs.run("addPoint(0, 0) = 0; setSpeed(0, 9, 0) = true; setSpeed(0, -9, 0) = false; setSpeed(0, 10, 0) = throws.IllegalArgumentException;"
                + "setSpeed(0, -10, 0) = throws.IllegalArgumentException; setSpeed(0, 2147483647, 0) = throws.IllegalArgumentException;"
                + "setSpeed(0, -2147483648, 0) = throws.IllegalArgumentException; pass(1) = 1; pointAt(-9, 0) = 0");
    }

    static void promise37_yIsFromMinus9To9(Runs runs) {
        runs.run("addPoint(0, 0) = 0; setSpeed(0, 0, 9) = true; setSpeed(0, 0, -9) = false; setSpeed(0, 0, 10) = throws.IllegalArgumentException;"
                + "setSpeed(0, 0, -10) = throws.IllegalArgumentException; setSpeed(0, 0, 2147483647) = throws.IllegalArgumentException;"
                + "setSpeed(0, 0, -2147483648) = throws.IllegalArgumentException; pass(1) = 1; pointAt(0, -9) = 0");
    }

    static void promise37_theSpeedAtFirstIs0(Runs runs) {
        runs.run(PointEdges.TWELVE + "pass(20) = 0; setSpeed(0, 0, 0) = true; setSpeed(11, 0, 0) = true; setSpeed(11, 0, 1) = true;"
                + "setSpeed(0, 0, 0) = true; pass(1) = 1; pointAt(11, 1) = 11");
    }

    static void promise37_whoMovesInOneDirectionDoesNotStandStill(Runs runs) {
        runs.run("addPoint(0, 0) = 0; setSpeed(0, 1, 0) = true; setSpeed(0, 0, -1) = false; setSpeed(0, 1, -1) = false;"
                + "setSpeed(0, 0, 0) = false; setSpeed(0, 0, 0) = true");
    }

    static void promise37_aPointThatIsNotThereIsRefused(Runs runs) {
        runs.run("setSpeed(0, 1, 1) = throws.IndexOutOfBoundsException; addPoint(0, 0) = 0; addPoint(1, 1) = 1; remove(0) = 1;"
                + "setSpeed(0, 1, 1) = throws.IndexOutOfBoundsException; setSpeed(2, 1, 1) = throws.IndexOutOfBoundsException;"
                + "setSpeed(-1, 1, 1) = throws.IndexOutOfBoundsException; setSpeed(12, 1, 1) = throws.IndexOutOfBoundsException;"
                + "setSpeed(33, 1, 1) = throws.IndexOutOfBoundsException; pass(1) = 0");
    }

    static void promise37_thePointIsLookedAtAheadOfTheRange(Runs runs) {
        runs.run("addPoint(0, 0) = 0; setSpeed(1, 10, 0) = throws.IndexOutOfBoundsException; setSpeed(-1, 0, -10) = throws.IndexOutOfBoundsException;"
                + "setSpeed(12, 10, 10) = throws.IndexOutOfBoundsException");
    }

    static void promise37_aRefusedSpeedChangesNothing(Runs runs) {
        runs.run("addPoint(0, 0) = 0; setSpeed(0, 2, 10) = throws.IllegalArgumentException; setSpeed(0, 10, 3) = throws.IllegalArgumentException;"
                + "setSpeed(0, 2, 3) = true; setSpeed(0, 10, 0) = throws.IllegalArgumentException; setSpeed(0, 0, -10) = throws.IllegalArgumentException;"
                + "pass(1) = 1; pointAt(2, 3) = 0");
    }

    static void promise38_theTimeIsFrom1To20(Runs runs) {
        runs.run("addPoint(0, 0) = 0; setSpeed(0, 1, 0) = true; pass(1) = 1; pointAt(1, 0) = 0; pass(20) = 1; pointAt(21, 0) = 0;"
                + "pass(0) = throws.IllegalArgumentException; pass(21) = throws.IllegalArgumentException; pass(-1) = throws.IllegalArgumentException;"
                + "pass(2147483647) = throws.IllegalArgumentException; pass(-2147483648) = throws.IllegalArgumentException; pointAt(21, 0) = 0");
    }

    static void promise38_withoutPointsNoneMoves(Runs runs) {
        runs.run("pass(1) = 0; pass(20) = 0; pass(0) = throws.IllegalArgumentException; pass(21) = throws.IllegalArgumentException");
    }

    static void promise38_pointsThatStandStillAreNotCounted(Runs runs) {
        runs.run("addPoint(0, 0) = 0; addPoint(5, 0) = 1; addPoint(9, 0) = 2; pass(20) = 0; setSpeed(1, 0, 1) = true; pass(1) = 1;"
                + "setSpeed(2, -1, 0) = true; pass(1) = 2; setSpeed(0, 1, 1) = true; pass(1) = 3; setSpeed(1, 0, 0) = false; pass(1) = 2;"
                + "pointAt(0, 0) = throws.NoSuchElementException; pointAt(2, 2) = 0; pointAt(5, 3) = 1; pointAt(6, 0) = 2");
    }

    static void promise38_upTo100AndNotBeyondByX(Runs runs) {
        runs.run("addPoint(90, 0) = 0; setSpeed(0, 5, 0) = true; pass(3) = throws.UnsupportedOperationException; pass(2) = 1;"
                + "pointAt(100, 0) = 0; pass(1) = throws.UnsupportedOperationException; move(0, -91, 0) = 36481; setSpeed(0, -9, 0) = false;"
                + "pass(2) = throws.UnsupportedOperationException; pass(1) = 1; pointAt(-100, 0) = 0; setSpeed(0, -1, 0) = false;"
                + "pass(1) = throws.UnsupportedOperationException; pass(20) = throws.UnsupportedOperationException");
    }

    static void promise38_upTo100AndNotBeyondByY(Runs runs) {
        runs.run("addPoint(0, 90) = 0; setSpeed(0, 0, 5) = true; pass(3) = throws.UnsupportedOperationException; pass(2) = 1;"
                + "pointAt(0, 100) = 0; pass(1) = throws.UnsupportedOperationException; move(0, 0, -91) = 36481; setSpeed(0, 0, -9) = false;"
                + "pass(2) = throws.UnsupportedOperationException; pass(1) = 1; pointAt(0, -100) = 0; setSpeed(0, 0, -1) = false;"
                + "pass(1) = throws.UnsupportedOperationException; pass(20) = throws.UnsupportedOperationException");
    }

    static void promise38_twoAtTheSamePlaceAreRefused(Runs runs) {
        runs.run("addPoint(0, 0) = 0; addPoint(10, 0) = 1; setSpeed(0, 1, 0) = true; setSpeed(1, -1, 0) = true;"
                + "pass(5) = throws.UnsupportedOperationException; pass(4) = 2; pass(1) = throws.UnsupportedOperationException; pass(2) = 2;"
                + "pointAt(6, 0) = 0; pointAt(4, 0) = 1; setSpeed(0, 0, 0) = false; setSpeed(1, 1, 0) = false;"
                + "pass(2) = throws.UnsupportedOperationException; pass(1) = 1; pass(2) = 1");
    }

    static void promise38_twoAtTheSamePlaceByYAreRefused(Runs runs) {
        runs.run("addPoint(0, 0) = 0; addPoint(0, 10) = 1; setSpeed(0, 0, 1) = true; setSpeed(1, 0, -1) = true;"
                + "pass(5) = throws.UnsupportedOperationException; pass(4) = 2; pass(1) = throws.UnsupportedOperationException; pass(2) = 2;"
                + "pointAt(0, 6) = 0; pointAt(0, 4) = 1; setSpeed(0, 0, 0) = false; setSpeed(1, 0, 1) = false;"
                + "pass(2) = throws.UnsupportedOperationException; pass(1) = 1; setSpeed(1, 0, 0) = false; setSpeed(0, 0, -1) = true;"
                + "pass(1) = throws.UnsupportedOperationException; pass(2) = 1; pointAt(0, 4) = 0");
    }

    static void promise38_alikeByOneOfTheTwoAloneIsNotTheSamePlace(Runs runs) {
        runs.run("addPoint(0, 0) = 0; addPoint(10, 3) = 1; setSpeed(0, 1, 0) = true; pass(10) = 1; pointAt(10, 0) = 0;"
                + "setSpeed(0, 1, 1) = false; pass(3) = 1; pointAt(13, 3) = 0; pointAt(10, 3) = 1");
    }

    static void promise38_theHighestNumbersAtTheSamePlaceAreRefused(Runs runs) {
        runs.run(PointEdges.TWELVE + "setSpeed(11, -1, 0) = true; pass(1) = throws.UnsupportedOperationException; setSpeed(10, 1, 0) = true;"
                + "pass(1) = 2; pointAt(10, 0) = 11; pointAt(11, 0) = 10; pass(9) = throws.UnsupportedOperationException;"
                + "pass(11) = 2; pointAt(-1, 0) = 11");
    }

    static void promise38_allAtOnceSoThatPlacesAreLeftAndTakenInOneTime(Runs runs) {
        runs.run("addPoint(0, 0) = 0; addPoint(5, 0) = 1; addPoint(10, 0) = 2; setSpeed(0, 5, 0) = true; setSpeed(1, 5, 0) = true;"
                + "pass(1) = throws.UnsupportedOperationException; setSpeed(2, 5, 0) = true; pass(1) = 3; pointAt(5, 0) = 0;"
                + "pointAt(10, 0) = 1; pointAt(15, 0) = 2; setSpeed(0, 5, 0) = false; setSpeed(1, -5, 0) = false; pass(1) = 3;"
                + "pointAt(10, 0) = 0; pointAt(5, 0) = 1");
    }

    static void promise38_rangeIsLookedAtAheadOfWhereTheyGo(Runs runs) {
        runs.run("addPoint(100, 0) = 0; setSpeed(0, 1, 0) = true; pass(0) = throws.IllegalArgumentException;"
                + "pass(21) = throws.IllegalArgumentException; pass(1) = throws.UnsupportedOperationException");
    }

    static void promise38_aRefusedTimeChangesNothing(Runs runs) {
        runs.run("addPoint(0, 0) = 0; addPoint(99, 0) = 1; setSpeed(0, 1, 1) = true; setSpeed(1, 1, 0) = true;"
                + "pass(2) = throws.UnsupportedOperationException; pointAt(0, 0) = 0; pointAt(99, 0) = 1; pass(21) = throws.IllegalArgumentException;"
                + "pass(1) = 2; pointAt(1, 1) = 0; pointAt(100, 0) = 1");
    }

    static void promise39_xIsFromMinus100To100(Runs runs) {
        runs.run("addPoint(0, 0) = 0; addPoint(0, 50) = 1; setSpeed(1, 0, -9) = true; nextNearest(100, 0) = throws.NoSuchElementException;"
                + "setSpeed(0, 0, -9) = true; nextNearest(100, 0) = 1; nextNearest(-100, 0) = 1; nextNearest(101, 0) = throws.IllegalArgumentException;"
                + "nextNearest(-101, 0) = throws.IllegalArgumentException; nextNearest(2147483647, 0) = throws.IllegalArgumentException;"
                + "nextNearest(-2147483648, 0) = throws.IllegalArgumentException");
    }

    static void promise39_yIsFromMinus100To100(Runs runs) {
        runs.run("addPoint(0, 0) = 0; addPoint(50, 0) = 1; setSpeed(1, -9, 0) = true; setSpeed(0, -9, 0) = true; nextNearest(0, 100) = 1;"
                + "nextNearest(0, -100) = 1; nextNearest(0, 101) = throws.IllegalArgumentException; nextNearest(0, -101) = throws.IllegalArgumentException;"
                + "nextNearest(0, 2147483647) = throws.IllegalArgumentException; nextNearest(0, -2147483648) = throws.IllegalArgumentException");
    }

    static void promise39_withoutPointsThereIsNone(Runs runs) {
        runs.run("nextNearest(0, 0) = throws.NoSuchElementException; addPoint(0, 0) = 0; remove(0) = 0;"
                + "nextNearest(0, 0) = throws.NoSuchElementException");
    }

    static void promise39_withoutAChangeThereIsNone(Runs runs) {
        runs.run("addPoint(0, 0) = 0; nextNearest(0, 0) = throws.NoSuchElementException; setSpeed(0, 9, 9) = true;"
                + "nextNearest(0, 0) = throws.NoSuchElementException; addPoint(5, 0) = 1; setSpeed(1, 9, 9) = true;"
                + "nextNearest(0, 0) = throws.NoSuchElementException; setSpeed(1, 8, 9) = false; nextNearest(0, 0) = 1");
    }

    static void promise39_theRangeIsLookedAtAheadOfThePoints(Runs runs) {
        runs.run("nextNearest(101, 0) = throws.IllegalArgumentException; nextNearest(0, -101) = throws.IllegalArgumentException;"
                + "addPoint(0, 0) = 0; nextNearest(-101, 0) = throws.IllegalArgumentException; nextNearest(0, 101) = throws.IllegalArgumentException");
    }

    static void promise39_ofLikeNearOnesTheLowestNumber(Runs runs) {
        runs.run("addPoint(0, 3) = 0; addPoint(10, 0) = 1; addPoint(-10, 0) = 2; setSpeed(1, -2, 0) = true; setSpeed(2, 2, 0) = true;"
                + "nextTime(0, 0) = 4; nextNearest(0, 0) = 1; setSpeed(2, 3, 0) = false; nextTime(0, 0) = 3; nextNearest(0, 0) = 2");
    }

    static void promise39_byEWithoutWeights(Runs runs) {
        runs.run("addPoint(0, 0) = 0; addPoint(20, 0) = 1; addPoint(-20, 0) = 2; setWeight(2, 999) = 0; setSpeed(1, -3, 0) = true;"
                + "nextNearest(5, 0) = 1; nextTime(5, 0) = 4");
    }

    static void promise40_xIsFromMinus100To100(Runs runs) {
        runs.run("addPoint(0, 0) = 0; addPoint(0, 50) = 1; setSpeed(1, 0, -9) = true; setSpeed(0, 0, -9) = true; nextTime(100, 0) = 3;"
                + "nextTime(-100, 0) = 3; nextTime(101, 0) = throws.IllegalArgumentException; nextTime(-101, 0) = throws.IllegalArgumentException;"
                + "nextTime(2147483647, 0) = throws.IllegalArgumentException; nextTime(-2147483648, 0) = throws.IllegalArgumentException");
    }

    static void promise40_yIsFromMinus100To100(Runs runs) {
        runs.run("addPoint(0, 0) = 0; addPoint(50, 0) = 1; setSpeed(1, -9, 0) = true; setSpeed(0, -9, 0) = true; nextTime(0, 100) = 3;"
                + "nextTime(0, -100) = 3; nextTime(0, 101) = throws.IllegalArgumentException; nextTime(0, -101) = throws.IllegalArgumentException;"
                + "nextTime(0, 2147483647) = throws.IllegalArgumentException; nextTime(0, -2147483648) = throws.IllegalArgumentException");
    }

    static void promise40_withoutPointsThereIsNone(Runs runs) {
        runs.run("nextTime(0, 0) = throws.NoSuchElementException; addPoint(0, 0) = 0; remove(0) = 0; nextTime(0, 0) = throws.NoSuchElementException");
    }

    static void promise40_withoutAChangeThereIsNone(Runs runs) {
        runs.run("addPoint(0, 0) = 0; nextTime(0, 0) = throws.NoSuchElementException; setSpeed(0, 9, 9) = true;"
                + "nextTime(0, 0) = throws.NoSuchElementException; addPoint(5, 0) = 1; nextTime(0, 0) = 1; setSpeed(1, 9, 9) = true;"
                + "nextTime(0, 0) = throws.NoSuchElementException");
    }

    static void promise40_theRangeIsLookedAtAheadOfThePoints(Runs runs) {
        runs.run("nextTime(101, 0) = throws.IllegalArgumentException; nextTime(0, -101) = throws.IllegalArgumentException;"
                + "addPoint(0, 0) = 0; nextTime(-101, 0) = throws.IllegalArgumentException; nextTime(0, 101) = throws.IllegalArgumentException");
    }

    static void promise40_aTimeOf1IsTheFirst(Runs runs) {
        runs.run("addPoint(0, 0) = 0; addPoint(10, 0) = 1; setSpeed(1, -9, 0) = true; nextTime(1, 0) = 1; nextNearest(1, 0) = 1;"
                + "nextTime(0, 0) = throws.NoSuchElementException; nextTime(5, 0) = 1; nextTime(6, 0) = 2; nextNearest(6, 0) = 0");
    }

    static void promise40_aTimeOf99IsTheLast(Runs runs) {
        runs.run("addPoint(0, 2) = 0; addPoint(100, 0) = 1; setSpeed(1, -1, 0) = true; nextTime(0, 0) = 99; nextNearest(0, 0) = 1");
    }

    static void promise40_aTimeOf100IsTooLate(Runs runs) {
        runs.run("addPoint(0, 1) = 0; addPoint(100, 0) = 1; setSpeed(1, -1, 0) = true; nextTime(0, 0) = throws.NoSuchElementException;"
                + "nextNearest(0, 0) = throws.NoSuchElementException; pass(1) = 1; nextTime(0, 0) = 99; nextNearest(0, 0) = 1");
    }

    static void promise40_asNearWithALowerNumberIsAChange(Runs runs) {
        runs.run("addPoint(50, 0) = 0; addPoint(0, 10) = 1; setSpeed(0, -5, 0) = true; nextTime(0, 0) = 8; nextNearest(0, 0) = 0");
    }

    static void promise40_asNearWithAHigherNumberIsNone(Runs runs) {
        runs.run("addPoint(0, 10) = 0; addPoint(50, 0) = 1; setSpeed(1, -5, 0) = true; nextTime(0, 0) = 9; nextNearest(0, 0) = 1;"
                + "setSpeed(1, -4, 3) = false; move(1, 46, 3) = 25; nextTime(0, 0) = throws.NoSuchElementException;"
                + "move(1, 50, 10) = 65; setSpeed(1, -5, 0) = false; nextTime(0, 0) = throws.NoSuchElementException");
    }

    static void promise40_allGoOnBeyondTheGroundToo(Runs runs) {
        runs.run("addPoint(100, 0) = 0; addPoint(-100, 0) = 1; setSpeed(0, 9, 0) = true; setSpeed(1, -8, 0) = true; nextTime(0, 0) = 1;"
                + "nextNearest(0, 0) = 1; nextTime(100, 0) = throws.NoSuchElementException; nextTime(25, 0) = 51; nextNearest(25, 0) = 1;"
                + "pass(1) = throws.UnsupportedOperationException");
    }

    static void promise40_allGoOnThroughEachOtherToo(Runs runs) {
        runs.run("addPoint(0, 0) = 0; addPoint(10, 0) = 1; setSpeed(1, -1, 0) = true; nextTime(-3, 0) = 11; nextNearest(-3, 0) = 1;"
                + "nextTime(3, 0) = 5; nextTime(0, 0) = throws.NoSuchElementException; pass(10) = throws.UnsupportedOperationException");
    }

    static void promise40_fromEverySideOfThePlace(Runs runs) {
        runs.run("addPoint(0, 0) = 0; addPoint(0, 30) = 1; setSpeed(1, 0, -2) = true; nextTime(0, 5) = 11; nextTime(0, -5) = 16;"
                + "move(1, 0, -30) = 3600; setSpeed(1, 0, 2) = false; nextTime(0, -5) = 11; nextTime(0, 5) = 16; move(1, 30, 0) = 1800;"
                + "setSpeed(1, -2, 0) = false; nextTime(5, 0) = 11; nextTime(-5, 0) = 16; move(1, -30, 0) = 3600; setSpeed(1, 2, 0) = false;"
                + "nextTime(-5, 0) = 11; nextTime(5, 0) = 16; nextNearest(5, 0) = 1");
    }

    static void promise40_placesAreThoseOfNowForAllElse(Runs runs) {
        runs.run("addPoint(0, 0) = 0; addPoint(20, 0) = 1; setSpeed(1, -9, 0) = true; nearest('e', 5, 0) = 0; nextTime(5, 0) = 2;"
                + "nextNearest(5, 0) = 1; nearest('e', 5, 0) = 0; pointAt(20, 0) = 1; treeSum() = 400; within(0, 0, 4) = 1; pass(2) = 1;"
                + "nearest('e', 5, 0) = 1; pointAt(2, 0) = 1; treeSum() = 4; within(0, 0, 4) = 2");
    }
}
