/** Promises 1 to 8: a test for each sentence with a boundary in it, such as a range, a full ground, or a refused call. */
final class PointEdges {
    static final String ELEVEN = "addPoint(0, 0) = 0; addPoint(1, 0) = 1; addPoint(2, 0) = 2; addPoint(3, 0) = 3;"
            + "addPoint(4, 0) = 4; addPoint(5, 0) = 5; addPoint(6, 0) = 6; addPoint(7, 0) = 7; addPoint(8, 0) = 8;"
            + "addPoint(9, 0) = 9; addPoint(10, 0) = 10;";
    static final String TWELVE = ELEVEN + "addPoint(11, 0) = 11;";

    private PointEdges() {
    }

    static void promise01_aNewGroundHasNoPoints(Runs runs) {
        runs.run("countPoints() = 0; pointAt(0, 0) = throws.NoSuchElementException;"
                + "remove(0) = throws.IndexOutOfBoundsException; nearest('e', 0, 0) = throws.NoSuchElementException");
    }

    static void promise01_aNewGroundHasNoWalls(Runs runs) {
        runs.run("dropWall() = throws.NoSuchElementException; addWall(0, 0, 1, 0) = 0; dropWall() = 0");
    }

    static void promise01_aNewGroundHasNothingToTakeBack(Runs runs) {
        runs.run("undo() = throws.NoSuchElementException; addPoint(1, 1) = 0; undo() = 0; countPoints() = 0");
    }

    static void promise01_oneGroundLeavesTheOtherOnesAlone(Runs runs) {
        Nearestward one = new Nearestward();
        one.addPoint(1, 1);
        one.addWall(0, 0, 5, 5);
        one.setSpeed(0, 3, 3);
        runs.run("countPoints() = 0; dropWall() = throws.NoSuchElementException; addPoint(1, 1) = 0;"
                + "setSpeed(0, 0, 0) = true; undo() = 0; undo() = throws.NoSuchElementException");
        runs.expect(one.countPoints() == 1 && one.dropWall() == 0 && !one.setSpeed(0, 0, 0), "the first ground changed");
    }

    static void promise02_xIsFromMinus100To100(Runs runs) {
        runs.run("addPoint(100, 1) = 0; addPoint(-100, 1) = 1; addPoint(101, 1) = throws.IllegalArgumentException;"
                + "addPoint(-101, 1) = throws.IllegalArgumentException; pointAt(100, 1) = 0; pointAt(-100, 1) = 1");
    }

    static void promise02_yIsFromMinus100To100(Runs runs) {
        runs.run("addPoint(1, 100) = 0; addPoint(1, -100) = 1; addPoint(1, 101) = throws.IllegalArgumentException;"
                + "addPoint(1, -101) = throws.IllegalArgumentException; pointAt(1, 100) = 0; pointAt(1, -100) = 1");
    }

    static void promise02_theGreatestAndLeastNumbersOfAllAreRefused(Runs runs) {
        runs.run("addPoint(2147483647, 0) = throws.IllegalArgumentException;"
                + "addPoint(-2147483648, 0) = throws.IllegalArgumentException;"
                + "addPoint(0, 2147483647) = throws.IllegalArgumentException;"
                + "addPoint(0, -2147483648) = throws.IllegalArgumentException; countPoints() = 0");
    }

    static void promise02_numbersGoFrom0To11(Runs runs) {
        runs.run(TWELVE + "pointAt(0, 0) = 0; pointAt(11, 0) = 11");
    }

    static void promise02_aNewPointTakesTheLowestFreeNumber(Runs runs) {
        runs.run("addPoint(0, 0) = 0; addPoint(1, 0) = 1; addPoint(2, 0) = 2; remove(2) = 2; remove(0) = 1;"
                + "addPoint(5, 5) = 0; addPoint(6, 6) = 2; addPoint(7, 7) = 3; pointAt(1, 0) = 1");
    }

    static void promise02_aPlaceWithAPointIsRefused(Runs runs) {
        runs.run("addPoint(5, -5) = 0; addPoint(5, -5) = throws.UnsupportedOperationException; addPoint(-5, 5) = 1;"
                + "addPoint(-5, -5) = 2; addPoint(5, 5) = 3; addPoint(5, 5) = throws.UnsupportedOperationException");
    }

    static void promise02_aPlaceThatAPointHasLeftIsFree(Runs runs) {
        runs.run("addPoint(5, 5) = 0; move(0, 6, 6) = 2; addPoint(6, 6) = throws.UnsupportedOperationException;"
                + "addPoint(5, 5) = 1; remove(0) = 1; addPoint(6, 6) = 0; setSpeed(1, 1, 0) = true; pass(2) = 1;"
                + "addPoint(7, 5) = throws.UnsupportedOperationException; addPoint(5, 5) = 2");
    }

    static void promise02_aThirteenthPointIsRefused(Runs runs) {
        runs.run(ELEVEN + "addPoint(50, 50) = 11; addPoint(60, 60) = throws.IllegalStateException; countPoints() = 12;"
                + "pointAt(60, 60) = throws.NoSuchElementException");
    }

    static void promise02_thereIsRoomAgainWhenOneOfTwelveIsTakenAway(Runs runs) {
        runs.run(TWELVE + "remove(7) = 11; addPoint(50, 50) = 7; addPoint(60, 60) = throws.IllegalStateException;"
                + "undo() = 13; addPoint(60, 60) = 7");
    }

    static void promise02_theRangeIsLookedAtAheadOfTheTwelve(Runs runs) {
        runs.run(TWELVE + "addPoint(101, 0) = throws.IllegalArgumentException; addPoint(0, -101) = throws.IllegalArgumentException");
    }

    static void promise02_aPointThereIsLookedAtAheadOfTheTwelve(Runs runs) {
        runs.run(TWELVE + "addPoint(11, 0) = throws.UnsupportedOperationException;"
                + "addPoint(0, 0) = throws.UnsupportedOperationException; addPoint(12, 0) = throws.IllegalStateException");
    }

    static void promise02_aNewPointHasNoWeight(Runs runs) {
        runs.run("addPoint(5, 5) = 0; setWeight(0, 9) = 0; remove(0) = 0; addPoint(5, 5) = 0; nearness('p', 5, 5) = 0;"
                + "setWeight(0, 3) = 0");
    }

    static void promise02_aNewPointStandsStill(Runs runs) {
        runs.run("addPoint(5, 5) = 0; setSpeed(0, 1, 0) = true; remove(0) = 0; addPoint(5, 5) = 0; pass(1) = 0;"
                + "setSpeed(0, 0, 1) = true; remove(0) = 0; addPoint(5, 5) = 0; pass(1) = 0; setSpeed(0, 0, 0) = true");
    }

    static void promise02_aRefusedPointChangesNothing(Runs runs) {
        runs.run("addPoint(5, 5) = 0; setWeight(0, 8) = 0; setSpeed(0, 1, 2) = true; addPoint(5, 5) = throws.UnsupportedOperationException;"
                + "addPoint(101, 5) = throws.IllegalArgumentException; countPoints() = 1; setWeight(0, 8) = 8;"
                + "setSpeed(0, 1, 2) = false; addPoint(5, 6) = 1; undo() = 1; undo() = 0;"
                + "undo() = throws.NoSuchElementException");
    }

    static void promise02_aRefusedThirteenthPointChangesNothing(Runs runs) {
        runs.run(TWELVE + "addPoint(50, 50) = throws.IllegalStateException; undo() = 11; countPoints() = 11;"
                + "addPoint(50, 50) = 11");
    }

    static void promise03_theLastPointCanBeTakenAway(Runs runs) {
        runs.run("addPoint(1, 1) = 0; remove(0) = 0; countPoints() = 0; pointAt(1, 1) = throws.NoSuchElementException");
    }

    static void promise03_takesEachOfTwelveAway(Runs runs) {
        runs.run(TWELVE + "remove(11) = 11; remove(0) = 10; remove(5) = 9; pointAt(11, 0) = throws.NoSuchElementException;"
                + "pointAt(0, 0) = throws.NoSuchElementException; pointAt(5, 0) = throws.NoSuchElementException; pointAt(10, 0) = 10");
    }

    static void promise03_theOtherOnesKeepTheirNumbers(Runs runs) {
        runs.run("addPoint(1, 1) = 0; addPoint(2, 2) = 1; addPoint(3, 3) = 2; remove(0) = 2; pointAt(2, 2) = 1;"
                + "pointAt(3, 3) = 2; remove(0) = throws.IndexOutOfBoundsException; remove(2) = 1; remove(1) = 0");
    }

    static void promise03_aPointThatIsNotThereIsRefused(Runs runs) {
        runs.run("remove(0) = throws.IndexOutOfBoundsException; addPoint(1, 1) = 0; remove(1) = throws.IndexOutOfBoundsException;"
                + "remove(11) = throws.IndexOutOfBoundsException; remove(0) = 0; remove(0) = throws.IndexOutOfBoundsException");
    }

    static void promise03_aNumberThatNoPointCanHaveIsRefused(Runs runs) {
        runs.run(TWELVE + "remove(12) = throws.IndexOutOfBoundsException; remove(-1) = throws.IndexOutOfBoundsException;"
                + "remove(32) = throws.IndexOutOfBoundsException; remove(-32) = throws.IndexOutOfBoundsException;"
                + "remove(2147483647) = throws.IndexOutOfBoundsException;"
                + "remove(-2147483648) = throws.IndexOutOfBoundsException; countPoints() = 12");
    }

    static void promise03_aRefusedCallChangesNothing(Runs runs) {
        runs.run("addPoint(1, 1) = 0; remove(3) = throws.IndexOutOfBoundsException; countPoints() = 1; undo() = 0;"
                + "undo() = throws.NoSuchElementException");
    }

    static void promise04_xIsFromMinus100To100(Runs runs) {
        runs.run("addPoint(0, 0) = 0; move(0, 100, 0) = 10000; move(0, -100, 0) = 40000;"
                + "move(0, 101, 0) = throws.IllegalArgumentException; move(0, -101, 0) = throws.IllegalArgumentException;"
                + "move(0, 2147483647, 0) = throws.IllegalArgumentException;"
                + "move(0, -2147483648, 0) = throws.IllegalArgumentException; pointAt(-100, 0) = 0");
    }

    static void promise04_yIsFromMinus100To100(Runs runs) {
        runs.run("addPoint(0, 0) = 0; move(0, 0, 100) = 10000; move(0, 0, -100) = 40000;"
                + "move(0, 0, 101) = throws.IllegalArgumentException; move(0, 0, -101) = throws.IllegalArgumentException;"
                + "move(0, 0, 2147483647) = throws.IllegalArgumentException;"
                + "move(0, 0, -2147483648) = throws.IllegalArgumentException; pointAt(0, -100) = 0");
    }

    static void promise04_theDistanceIsTheSquare(Runs runs) {
        runs.run("addPoint(-100, -100) = 0; move(0, -97, -96) = 25; move(0, -97, -95) = 1; move(0, -100, -100) = 34;"
                + "move(0, 100, 100) = 80000; move(0, -100, -100) = 80000");
    }

    static void promise04_itsOwnPlaceIsNoOtherPoint(Runs runs) {
        runs.run("addPoint(4, 4) = 0; addPoint(5, 5) = 1; move(0, 4, 4) = 0; pointAt(4, 4) = 0; move(1, 5, 5) = 0");
    }

    static void promise04_anotherPointThereIsRefused(Runs runs) {
        runs.run("addPoint(4, 4) = 0; addPoint(5, 5) = 1; move(0, 5, 5) = throws.UnsupportedOperationException;"
                + "move(1, 4, 4) = throws.UnsupportedOperationException; pointAt(4, 4) = 0; pointAt(5, 5) = 1; remove(1) = 1;"
                + "move(0, 5, 5) = 2");
    }

    static void promise04_aPointThatIsNotThereIsRefused(Runs runs) {
        runs.run("move(0, 1, 1) = throws.IndexOutOfBoundsException; addPoint(4, 4) = 0; addPoint(5, 5) = 1; remove(0) = 1;"
                + "move(0, 1, 1) = throws.IndexOutOfBoundsException; move(2, 1, 1) = throws.IndexOutOfBoundsException;"
                + "move(12, 1, 1) = throws.IndexOutOfBoundsException; move(-1, 1, 1) = throws.IndexOutOfBoundsException;"
                + "move(33, 1, 1) = throws.IndexOutOfBoundsException; pointAt(5, 5) = 1");
    }

    static void promise04_thePointIsLookedAtAheadOfTheRange(Runs runs) {
        runs.run("addPoint(4, 4) = 0; move(1, 101, 0) = throws.IndexOutOfBoundsException;"
                + "move(-1, 0, -101) = throws.IndexOutOfBoundsException; move(12, 500, 500) = throws.IndexOutOfBoundsException");
    }

    static void promise04_thePointIsLookedAtAheadOfThePlace(Runs runs) {
        runs.run("addPoint(4, 4) = 0; move(1, 4, 4) = throws.IndexOutOfBoundsException;"
                + "move(-1, 4, 4) = throws.IndexOutOfBoundsException");
    }

    static void promise04_aMovedPointKeepsItsWeightAndSpeed(Runs runs) {
        runs.run("addPoint(0, 0) = 0; setWeight(0, 7) = 0; setSpeed(0, 1, 2) = true; move(0, 5, 5) = 50; setWeight(0, 7) = 7;"
                + "pass(3) = 1; pointAt(8, 11) = 0");
    }

    static void promise04_aRefusedMoveChangesNothing(Runs runs) {
        runs.run("addPoint(4, 4) = 0; addPoint(5, 5) = 1; setSpeed(0, 1, 0) = true;"
                + "move(0, 5, 5) = throws.UnsupportedOperationException; move(0, 101, 5) = throws.IllegalArgumentException;"
                + "move(3, 1, 1) = throws.IndexOutOfBoundsException; pointAt(4, 4) = 0; setSpeed(0, 0, 0) = false; undo() = 1;"
                + "countPoints() = 1; undo() = 0");
    }

    static void promise05_aWeightIsFrom0To999(Runs runs) {
        runs.run("addPoint(0, 0) = 0; setWeight(0, 999) = 0; setWeight(0, 1000) = throws.IllegalArgumentException;"
                + "setWeight(0, 0) = 999; setWeight(0, -1) = throws.IllegalArgumentException;"
                + "setWeight(0, 2147483647) = throws.IllegalArgumentException;"
                + "setWeight(0, -2147483648) = throws.IllegalArgumentException; setWeight(0, 1) = 0");
    }

    static void promise05_theWeightAtFirstIs0(Runs runs) {
        runs.run(TWELVE + "setWeight(0, 5) = 0; setWeight(11, 6) = 0; setWeight(0, 0) = 5; setWeight(11, 0) = 6");
    }

    static void promise05_aPointThatIsNotThereIsRefused(Runs runs) {
        runs.run("setWeight(0, 5) = throws.IndexOutOfBoundsException; addPoint(0, 0) = 0; addPoint(1, 1) = 1; remove(0) = 1;"
                + "setWeight(0, 5) = throws.IndexOutOfBoundsException; setWeight(2, 5) = throws.IndexOutOfBoundsException;"
                + "setWeight(-1, 5) = throws.IndexOutOfBoundsException; setWeight(12, 5) = throws.IndexOutOfBoundsException");
    }

    static void promise05_thePointIsLookedAtAheadOfTheRange(Runs runs) {
        runs.run("addPoint(0, 0) = 0; setWeight(1, 1000) = throws.IndexOutOfBoundsException;"
                + "setWeight(-1, -1) = throws.IndexOutOfBoundsException; setWeight(12, 1000) = throws.IndexOutOfBoundsException");
    }

    static void promise05_aRefusedWeightChangesNothing(Runs runs) {
        runs.run("addPoint(0, 0) = 0; setWeight(0, 77) = 0; setWeight(0, 1000) = throws.IllegalArgumentException;"
                + "setWeight(0, -1) = throws.IllegalArgumentException; nearness('p', 0, 0) = -77; setWeight(0, 77) = 77");
    }

    static void promise06_countsFrom0To12(Runs runs) {
        runs.run("countPoints() = 0; addPoint(50, 0) = 0; countPoints() = 1; remove(0) = 0; countPoints() = 0; " + TWELVE
                + "countPoints() = 12; addPoint(12, 0) = throws.IllegalStateException; countPoints() = 12; remove(3) = 11;"
                + "countPoints() = 11; undo() = 14; countPoints() = 12");
    }

    static void promise06_aRefusedPointIsNotCounted(Runs runs) {
        runs.run("addPoint(0, 0) = 0; addPoint(0, 0) = throws.UnsupportedOperationException; countPoints() = 1;"
                + "addPoint(101, 0) = throws.IllegalArgumentException; countPoints() = 1");
    }

    static void promise07_aPlaceWithoutAPointIsRefused(Runs runs) {
        runs.run("pointAt(0, 0) = throws.NoSuchElementException; addPoint(3, -4) = 0; pointAt(3, -4) = 0;"
                + "pointAt(-4, 3) = throws.NoSuchElementException; pointAt(3, 4) = throws.NoSuchElementException;"
                + "pointAt(0, 0) = throws.NoSuchElementException");
    }

    static void promise07_aPlaceBeyondTheGroundHasNoPoint(Runs runs) {
        runs.run("addPoint(100, -100) = 0; pointAt(100, -100) = 0; pointAt(101, -100) = throws.NoSuchElementException;"
                + "pointAt(100, -101) = throws.NoSuchElementException; pointAt(2147483647, 0) = throws.NoSuchElementException;"
                + "pointAt(0, -2147483648) = throws.NoSuchElementException");
    }

    static void promise07_aPlaceThatAPointHasLeftHasNone(Runs runs) {
        runs.run("addPoint(1, 1) = 0; addPoint(2, 2) = 1; remove(0) = 1; pointAt(1, 1) = throws.NoSuchElementException;"
                + "move(1, 1, 1) = 2; pointAt(2, 2) = throws.NoSuchElementException; pointAt(1, 1) = 1; setSpeed(1, 1, 1) = true;"
                + "pass(1) = 1; pointAt(1, 1) = throws.NoSuchElementException; pointAt(2, 2) = 1; undo() = 3;"
                + "pointAt(2, 2) = 1; pointAt(1, 1) = throws.NoSuchElementException");
    }

    static void promise08_nothingToTakeBackIsRefused(Runs runs) {
        runs.run("undo() = throws.NoSuchElementException; addPoint(1, 1) = 0; undo() = 0; undo() = throws.NoSuchElementException;"
                + "countPoints() = 0");
    }

    static void promise08_takesAnAddedPointBack(Runs runs) {
        runs.run("addPoint(1, 1) = 0; addPoint(2, 2) = 1; undo() = 1; countPoints() = 1;"
                + "pointAt(2, 2) = throws.NoSuchElementException; addPoint(3, 3) = 1");
    }

    static void promise08_takesARemovedPointBackWithItsNumberWeightAndSpeed(Runs runs) {
        runs.run("addPoint(1, 1) = 0; addPoint(2, 2) = 1; setWeight(0, 9) = 0; setSpeed(0, 0, -4) = true; remove(0) = 1;"
                + "undo() = 2; pointAt(1, 1) = 0; setWeight(0, 0) = 9; pass(2) = 1; pointAt(1, -7) = 0");
    }

    static void promise08_takesAMoveBack(Runs runs) {
        runs.run("addPoint(1, 1) = 0; move(0, 5, 5) = 32; undo() = 1; pointAt(1, 1) = 0;"
                + "pointAt(5, 5) = throws.NoSuchElementException");
    }

    static void promise08_takesAMoveToTheSamePlaceBack(Runs runs) {
        runs.run("addPoint(1, 1) = 0; move(0, 1, 1) = 0; setWeight(0, 5) = 0; undo() = 1; pointAt(1, 1) = 0; setWeight(0, 0) = 0;"
                + "undo() = 0");
    }

    static void promise08_weightsSetBehindTheCallGoToo(Runs runs) {
        runs.run("addPoint(1, 1) = 0; setWeight(0, 5) = 0; addPoint(9, 9) = 1; setWeight(0, 6) = 5; undo() = 1;"
                + "setWeight(0, 7) = 5; undo() = 0");
    }

    static void promise08_speedsSetBehindTheCallGoToo(Runs runs) {
        runs.run("addPoint(1, 1) = 0; setSpeed(0, 2, 3) = true; addPoint(9, 9) = 1; setSpeed(0, 0, 0) = false; undo() = 1;"
                + "pass(1) = 1; pointAt(3, 4) = 0; addPoint(9, 9) = 1; setSpeed(0, 0, 5) = false; undo() = 1; pass(1) = 1;"
                + "pointAt(5, 7) = 0");
    }

    static void promise08_passingBehindTheCallGoesToo(Runs runs) {
        runs.run("addPoint(1, 1) = 0; addPoint(2, 5) = 1; setSpeed(0, 1, 2) = true; setSpeed(1, -1, 0) = true; remove(1) = 1;"
                + "pass(10) = 1; pass(10) = 1; undo() = 2; pointAt(1, 1) = 0; pointAt(2, 5) = 1; pass(1) = 2");
    }

    static void promise08_passingAheadOfTheCallStays(Runs runs) {
        runs.run("addPoint(1, 1) = 0; setSpeed(0, 1, 2) = true; pass(3) = 1; move(0, 50, 50) = 3965; undo() = 1;"
                + "pointAt(4, 7) = 0; undo() = 0; countPoints() = 0");
    }

    static void promise08_wallsStay(Runs runs) {
        runs.run("addWall(0, 0, 1, 1) = 0; addPoint(5, 5) = 0; addWall(2, 2, 3, 3) = 1; undo() = 0; dropWall() = 1;"
                + "addPoint(5, 5) = 0; dropWall() = 0; undo() = 0; dropWall() = throws.NoSuchElementException");
    }

    static void promise08_callsOtherThanTheThreeAreNotTakenBack(Runs runs) {
        runs.run("addPoint(1, 1) = 0; setWeight(0, 4) = 0; setSpeed(0, 1, 1) = true; pass(1) = 1; addWall(0, 0, 1, 1) = 0;"
                + "dropWall() = 0; undo() = 0; countPoints() = 0; undo() = throws.NoSuchElementException");
    }

    static void promise08_aRefusedCallIsNotTakenBack(Runs runs) {
        runs.run("addPoint(1, 1) = 0; addPoint(2, 2) = 1; addPoint(1, 1) = throws.UnsupportedOperationException;"
                + "addPoint(101, 1) = throws.IllegalArgumentException; move(0, 2, 2) = throws.UnsupportedOperationException;"
                + "move(0, 101, 0) = throws.IllegalArgumentException; remove(9) = throws.IndexOutOfBoundsException; undo() = 1;"
                + "countPoints() = 1");
    }

    static void promise08_aCallTakenBackIsNotTakenBackAgain(Runs runs) {
        runs.run("addPoint(1, 1) = 0; addPoint(2, 2) = 1; undo() = 1; undo() = 0; undo() = throws.NoSuchElementException;"
                + "addPoint(3, 3) = 0; undo() = 0; countPoints() = 0");
    }

    static void promise08_twentyCallsCanBeTakenBack(Runs runs) {
        runs.run(movesToTheRight(19) + backFrom(19, 19) + "undo() = 0; countPoints() = 0; undo() = throws.NoSuchElementException");
    }

    static void promise08_ofTwentyOneCallsTheFirstStays(Runs runs) {
        runs.run(movesToTheRight(20) + backFrom(20, 20) + "countPoints() = 1; pointAt(0, 0) = 0;"
                + "undo() = throws.NoSuchElementException; pointAt(0, 0) = 0");
    }

    static void promise08_ofManyCallsTheLastTwentyCanBeTakenBack(Runs runs) {
        runs.run(movesToTheRight(67) + backFrom(67, 20) + "pointAt(47, 0) = 0; undo() = throws.NoSuchElementException;"
                + "pointAt(47, 0) = 0");
    }

    static void promise08_newCallsCountUpTo20Again(Runs runs) {
        runs.run(movesToTheRight(30) + backFrom(30, 5) + "pointAt(25, 0) = 0; move(0, 50, 0) = 625; undo() = 15;"
                + "pointAt(25, 0) = 0; move(0, 60, 0) = 1225; move(0, 61, 0) = 1; move(0, 62, 0) = 1; move(0, 63, 0) = 1;"
                + "move(0, 64, 0) = 1; move(0, 65, 0) = 1; undo() = 19; pointAt(64, 0) = 0");
    }

    static void promise08_allTwelveComeBackAtOnce(Runs runs) {
        runs.run(TWELVE + "setWeight(11, 3) = 0; setSpeed(11, 2, 0) = true; setWeight(0, 4) = 0; setSpeed(0, 0, 3) = true;"
                + "remove(6) = 11; setWeight(11, 5) = 3; setSpeed(11, 0, 0) = false; setWeight(0, 0) = 4; pass(20) = 1;"
                + "undo() = 12; countPoints() = 12; setWeight(11, 0) = 3; setWeight(0, 0) = 4; pass(2) = 2; pointAt(15, 0) = 11;"
                + "pointAt(0, 6) = 0; pointAt(6, 0) = 6");
    }

    static void promise08_whatHangsOnPlacesIsAsAheadOfTheCall(Runs runs) {
        runs.run("addPoint(0, 0) = 0; addPoint(10, 0) = 1; addPoint(0, 10) = 2; countTriangles() = 1; treeSum() = 200;"
                + "hullArea() = 100; remove(2) = 2; countTriangles() = 0; treeSum() = 100; hullArea() = 0; undo() = 3;"
                + "countTriangles() = 1; treeSum() = 200; hullArea() = 100; isTriangle(0, 1, 2) = true");
    }

    static void promise08_anotherMoveBehindItIsNotTakenForTheOneTakenBack(Runs runs) {
        runs.run("addPoint(0, 0) = 0; addPoint(10, 0) = 1; addPoint(0, 10) = 2; move(2, 5, 0) = 125; countTriangles() = 0;"
                + "treeSum() = 50; undo() = 3; move(2, 20, 20) = 500; countTriangles() = 1; treeSum() = 600; undo() = 3;"
                + "remove(2) = 2; countTriangles() = 0; treeSum() = 100; undo() = 3; addPoint(9, 9) = 3; countTriangles() = 2;"
                + "treeSum() = 264");
    }

    /** A point, and so many moves to the right, one each. */
    private static String movesToTheRight(int moves) {
        StringBuilder text = new StringBuilder("addPoint(0, 0) = 0;");
        for (int x = 1; x <= moves; x++) {
            text.append("move(0, ").append(x).append(", 0) = 1;");
        }
        return text.toString();
    }

    /** From a place to the right so many moves back, as long as each is a move. */
    private static String backFrom(int x, int moves) {
        StringBuilder text = new StringBuilder();
        int left = Math.min(x + 1, 20);
        for (int back = 1; back <= moves; back++) {
            text.append("undo() = ").append(left - back).append("; pointAt(").append(x - back).append(", 0) = 0;");
        }
        return text.toString();
    }
}
