/** Promises 9 to 16: a test for each sentence with a boundary in it, such as a range, a tie, or a place on a circle. */
final class NearnessEdges {
    private static final String SQUARE = "addPoint(0, 0) = 0; addPoint(10, 0) = 1; addPoint(10, 10) = 2; addPoint(0, 10) = 3;";

    private NearnessEdges() {
    }

    /** The kinds that there are answer, and signs beside them are refused. */
    private static void kindsOf(Runs runs, String call, String rest, String answer) {
        StringBuilder text = new StringBuilder("addPoint(0, 0) = 0;");
        for (char kind : "esmp".toCharArray()) {
            text.append(call).append("('").append(kind).append("', ").append(rest).append(") = ").append(answer).append(';');
        }
        for (char kind : "dfrtolnqESMPag 0".toCharArray()) {
            text.append(call).append("('").append(kind).append("', ").append(rest).append(") = throws.IllegalArgumentException;");
        }
        runs.run(text.toString());
    }

    private static void xOf(Runs runs, String call, String rest, String atLeast, String atMost) {
        runs.run("addPoint(0, 0) = 0;" + call + "('e', -999, 0" + rest + ") = " + atLeast + ";" + call + "('e', 999, 0" + rest
                + ") = " + atMost + ";" + call + "('e', -1000, 0" + rest + ") = throws.IllegalArgumentException;"
                + call + "('s', 1000, 0" + rest + ") = throws.IllegalArgumentException;"
                + call + "('m', 2147483647, 0" + rest + ") = throws.IllegalArgumentException;"
                + call + "('p', -2147483648, 0" + rest + ") = throws.IllegalArgumentException");
    }

    private static void yOf(Runs runs, String call, String rest, String atLeast, String atMost) {
        runs.run("addPoint(0, 0) = 0;" + call + "('e', 0, -999" + rest + ") = " + atLeast + ";" + call + "('e', 0, 999" + rest
                + ") = " + atMost + ";" + call + "('e', 0, -1000" + rest + ") = throws.IllegalArgumentException;"
                + call + "('s', 0, 1000" + rest + ") = throws.IllegalArgumentException;"
                + call + "('m', 0, 2147483647" + rest + ") = throws.IllegalArgumentException;"
                + call + "('p', 0, -2147483648" + rest + ") = throws.IllegalArgumentException");
    }

    private static void noPointsFor(Runs runs, String call, String rest) {
        runs.run(call + "('e', 0, 0" + rest + ") = throws.NoSuchElementException;"
                + call + "('p', 999, -999" + rest + ") = throws.NoSuchElementException; addPoint(0, 0) = 0; remove(0) = 0;"
                + call + "('s', 0, 0" + rest + ") = throws.NoSuchElementException;"
                + call + "('m', 0, 0" + rest + ") = throws.NoSuchElementException");
    }

    private static void orderFor(Runs runs, String call, String rest) {
        runs.run(call + "('x', 0, 0" + rest + ") = throws.IllegalArgumentException;"
                + call + "('e', 1000, 0" + rest + ") = throws.IllegalArgumentException;"
                + call + "('e', 0, -1000" + rest + ") = throws.IllegalArgumentException;"
                + call + "('x', 1000, 1000" + rest + ") = throws.IllegalArgumentException");
    }

    static void promise09_kindsAreFour(Runs runs) {
        kindsOf(runs, "nearest", "3, 4", "0");
    }

    static void promise09_xIsFromMinus999To999(Runs runs) {
        xOf(runs, "nearest", "", "0", "0");
    }

    static void promise09_yIsFromMinus999To999(Runs runs) {
        yOf(runs, "nearest", "", "0", "0");
    }

    static void promise09_withoutPointsThereIsNone(Runs runs) {
        noPointsFor(runs, "nearest", "");
    }

    static void promise09_kindAndRangeAreLookedAtAheadOfThePoints(Runs runs) {
        orderFor(runs, "nearest", "");
    }

    static void promise09_ofLikeNearOnesTheLowestNumberByE(Runs runs) {
        runs.run("addPoint(5, 0) = 0; addPoint(3, 4) = 1; addPoint(-4, -3) = 2; nearest('e', 0, 0) = 0; remove(0) = 2;"
                + "nearest('e', 0, 0) = 1; addPoint(0, -5) = 0; nearest('e', 0, 0) = 0");
    }

    static void promise09_ofLikeNearOnesTheLowestNumberByS(Runs runs) {
        runs.run("addPoint(3, 0) = 0; addPoint(1, -2) = 1; nearest('s', 0, 0) = 0; nearest('e', 0, 0) = 1; remove(0) = 1;"
                + "addPoint(2, 1) = 0; nearest('s', 0, 0) = 0");
    }

    static void promise09_ofLikeNearOnesTheLowestNumberByM(Runs runs) {
        runs.run("addPoint(3, -3) = 0; addPoint(0, 3) = 1; nearest('m', 0, 0) = 0; nearest('e', 0, 0) = 1;"
                + "nearest('s', 0, 0) = 1");
    }

    static void promise09_ofLikeNearOnesTheLowestNumberByP(Runs runs) {
        runs.run("addPoint(5, 0) = 0; setWeight(0, 16) = 0; addPoint(3, 0) = 1; nearest('p', 0, 0) = 0; nearest('e', 0, 0) = 1;"
                + "setWeight(0, 15) = 16; nearest('p', 0, 0) = 1");
    }

    static void promise09_theSumOfDifferencesIsWithoutSign(Runs runs) {
        runs.run("addPoint(-9, 8) = 0; addPoint(3, 3) = 1; nearest('s', 0, 0) = 1; addPoint(-2, -3) = 2; nearest('s', 0, 0) = 2;"
                + "nearest('m', 0, 0) = 1; nearest('m', -3, 0) = 2");
    }

    static void promise09_weightsCountByPAlone(Runs runs) {
        runs.run("addPoint(20, 0) = 0; addPoint(1, 0) = 1; setWeight(0, 999) = 0; nearest('e', 0, 0) = 1; nearest('s', 0, 0) = 1;"
                + "nearest('m', 0, 0) = 1; nearest('p', 0, 0) = 0");
    }

    static void promise10_kindsAreFour(Runs runs) {
        runs.run("addPoint(0, 0) = 0; nearness('e', 3, -4) = 25; nearness('s', 3, -4) = 7; nearness('m', 3, -4) = 4;"
                + "nearness('p', 3, -4) = 25; nearness('x', 3, -4) = throws.IllegalArgumentException;"
                + "nearness('E', 3, -4) = throws.IllegalArgumentException; nearness('d', 3, -4) = throws.IllegalArgumentException;"
                + "nearness('f', 3, -4) = throws.IllegalArgumentException; nearness('q', 3, -4) = throws.IllegalArgumentException;"
                + "nearness(' ', 3, -4) = throws.IllegalArgumentException");
    }

    static void promise10_xIsFromMinus999To999(Runs runs) {
        xOf(runs, "nearness", "", "998001", "998001");
    }

    static void promise10_yIsFromMinus999To999(Runs runs) {
        yOf(runs, "nearness", "", "998001", "998001");
    }

    static void promise10_withoutPointsThereIsNone(Runs runs) {
        noPointsFor(runs, "nearness", "");
    }

    static void promise10_kindAndRangeAreLookedAtAheadOfThePoints(Runs runs) {
        orderFor(runs, "nearness", "");
    }

    static void promise10_theFarthestPlaceOfAll(Runs runs) {
        runs.run("addPoint(-100, -100) = 0; nearness('e', 999, 999) = 2415602; nearness('s', 999, 999) = 2198;"
                + "nearness('m', 999, 999) = 1099; nearness('p', 999, 999) = 2415602; setWeight(0, 999) = 0;"
                + "nearness('p', 999, 999) = 2414603; nearness('e', 999, 999) = 2415602");
    }

    static void promise10_byPPerhapsBelow0(Runs runs) {
        runs.run("addPoint(3, -4) = 0; nearness('p', 3, -4) = 0; setWeight(0, 1) = 0; nearness('p', 3, -4) = -1;"
                + "setWeight(0, 999) = 1; nearness('p', 3, -4) = -999; setWeight(0, 25) = 999; nearness('p', 0, 0) = 0;"
                + "setWeight(0, 26) = 25; nearness('p', 0, 0) = -1; nearness('e', 0, 0) = 25; nearness('s', 0, 0) = 7;"
                + "nearness('m', 0, 0) = 4");
    }

    static void promise11_kindsAreFour(Runs runs) {
        kindsOf(runs, "farthest", "3, 4", "0");
    }

    static void promise11_xIsFromMinus999To999(Runs runs) {
        xOf(runs, "farthest", "", "0", "0");
    }

    static void promise11_yIsFromMinus999To999(Runs runs) {
        yOf(runs, "farthest", "", "0", "0");
    }

    static void promise11_withoutPointsThereIsNone(Runs runs) {
        noPointsFor(runs, "farthest", "");
    }

    static void promise11_kindAndRangeAreLookedAtAheadOfThePoints(Runs runs) {
        orderFor(runs, "farthest", "");
    }

    static void promise11_ofLikeFarOnesTheLowestNumber(Runs runs) {
        runs.run("addPoint(1, 0) = 0; addPoint(5, 0) = 1; addPoint(-3, 4) = 2; farthest('e', 0, 0) = 1; move(1, 4, 0) = 1;"
                + "farthest('e', 0, 0) = 2; farthest('m', 0, 0) = 1; move(1, 7, 0) = 9; farthest('s', 0, 0) = 1;"
                + "move(1, 5, 0) = 4; setWeight(2, 1) = 0; farthest('p', 0, 0) = 1; setWeight(1, 1) = 0; farthest('p', 0, 0) = 1;"
                + "setWeight(1, 2) = 1; farthest('p', 0, 0) = 2");
    }

    static void promise11_byPTheGreatestOfDistancesLessWeights(Runs runs) {
        runs.run("addPoint(0, 0) = 0; addPoint(10, 0) = 1; setWeight(1, 99) = 0; farthest('p', 0, 0) = 1; setWeight(1, 100) = 99;"
                + "farthest('p', 0, 0) = 0; setWeight(1, 101) = 100; farthest('p', 0, 0) = 0; setWeight(0, 2) = 0;"
                + "farthest('p', 0, 0) = 1; farthest('e', 0, 0) = 1");
    }

    static void promise11_allBelow0HaveAFarthestOneToo(Runs runs) {
        runs.run("addPoint(0, 0) = 0; setWeight(0, 900) = 0; addPoint(1, 0) = 1; setWeight(1, 800) = 0; farthest('p', 0, 0) = 1;"
                + "nearest('p', 0, 0) = 0; nearness('p', 0, 0) = -900");
    }

    static void promise12_kindsAreFour(Runs runs) {
        kindsOf(runs, "nearestAt", "3, 4, 0", "0");
    }

    static void promise12_xIsFromMinus999To999(Runs runs) {
        xOf(runs, "nearestAt", ", 0", "0", "0");
    }

    static void promise12_yIsFromMinus999To999(Runs runs) {
        yOf(runs, "nearestAt", ", 0", "0", "0");
    }

    static void promise12_withoutPointsThereIsNone(Runs runs) {
        noPointsFor(runs, "nearestAt", ", 0");
    }

    static void promise12_kindAndRangeAreLookedAtAheadOfTheIndex(Runs runs) {
        orderFor(runs, "nearestAt", ", 0");
        orderFor(runs, "nearestAt", ", 12");
        orderFor(runs, "nearestAt", ", -1");
    }

    static void promise12_theIndexIsFrom0ForTheNearestOne(Runs runs) {
        runs.run("addPoint(9, 0) = 0; addPoint(2, 0) = 1; nearestAt('e', 0, 0, 0) = 1; nearestAt('e', 0, 0, 1) = 0;"
                + "nearestAt('s', 9, 0, 0) = 0; nearestAt('m', 9, 0, 1) = 1");
    }

    static void promise12_beyondTheLastOneThereIsNone(Runs runs) {
        runs.run("addPoint(9, 0) = 0; nearestAt('e', 0, 0, 1) = throws.NoSuchElementException; addPoint(2, 0) = 1;"
                + "nearestAt('e', 0, 0, 1) = 0; nearestAt('e', 0, 0, 2) = throws.NoSuchElementException;"
                + "nearestAt('e', 0, 0, 11) = throws.NoSuchElementException;"
                + "nearestAt('e', 0, 0, 2147483647) = throws.NoSuchElementException");
    }

    static void promise12_belowTheNearestOneThereIsNone(Runs runs) {
        runs.run("addPoint(9, 0) = 0; nearestAt('e', 0, 0, -1) = throws.NoSuchElementException;"
                + "nearestAt('p', 0, 0, -2147483648) = throws.NoSuchElementException");
    }

    static void promise12_theTwelfthOfTwelve(Runs runs) {
        runs.run(PointEdges.TWELVE + "nearestAt('e', 0, 0, 11) = 11; nearestAt('e', 11, 0, 11) = 0; nearestAt('s', 0, 0, 5) = 5;"
                + "nearestAt('m', 11, 0, 2) = 9; nearestAt('e', 0, 0, 12) = throws.NoSuchElementException");
    }

    static void promise12_likeOnesGoByTheirNumbers(Runs runs) {
        runs.run("addPoint(5, 0) = 0; addPoint(0, 1) = 1; addPoint(3, 4) = 2; addPoint(-4, 3) = 3; nearestAt('e', 0, 0, 0) = 1;"
                + "nearestAt('e', 0, 0, 1) = 0; nearestAt('e', 0, 0, 2) = 2; nearestAt('e', 0, 0, 3) = 3; remove(2) = 3;"
                + "nearestAt('e', 0, 0, 2) = 3; addPoint(0, -5) = 2; nearestAt('e', 0, 0, 2) = 2; nearestAt('m', 1, 1, 0) = 1;"
                + "nearestAt('m', 1, 1, 1) = 0; nearestAt('m', 1, 1, 2) = 3; nearestAt('m', 1, 1, 3) = 2");
    }

    static void promise12_weightsChangeTheOrderByP(Runs runs) {
        runs.run("addPoint(1, 0) = 0; addPoint(5, 0) = 1; addPoint(0, 0) = 2; setWeight(1, 25) = 0; nearestAt('p', 0, 0, 0) = 1;"
                + "nearestAt('p', 0, 0, 1) = 2; nearestAt('p', 0, 0, 2) = 0; setWeight(1, 24) = 25; nearestAt('p', 0, 0, 0) = 2;"
                + "nearestAt('p', 0, 0, 1) = 0; nearestAt('p', 0, 0, 2) = 1; nearestAt('e', 0, 0, 2) = 1");
    }

    static void promise13_xIsFromMinus999To999(Runs runs) {
        runs.run("addPoint(0, 0) = 0; within(999, 0, 998001) = 1; within(-999, 0, 998001) = 1;"
                + "within(1000, 0, 9999999) = throws.IllegalArgumentException; within(-1000, 0, 9999999) = throws.IllegalArgumentException;"
                + "within(2147483647, 0, 5) = throws.IllegalArgumentException; within(-2147483648, 0, 5) = throws.IllegalArgumentException");
    }

    static void promise13_yIsFromMinus999To999(Runs runs) {
        runs.run("addPoint(0, 0) = 0; within(0, 999, 998001) = 1; within(0, -999, 998001) = 1;"
                + "within(0, 1000, 9999999) = throws.IllegalArgumentException; within(0, -1000, 9999999) = throws.IllegalArgumentException;"
                + "within(0, 2147483647, 5) = throws.IllegalArgumentException; within(0, -2147483648, 5) = throws.IllegalArgumentException");
    }

    static void promise13_theDistanceIsFrom0To9999999(Runs runs) {
        runs.run("addPoint(0, 0) = 0; within(0, 0, 0) = 1; within(0, 0, 9999999) = 1; within(0, 0, -1) = throws.IllegalArgumentException;"
                + "within(0, 0, 10000000) = throws.IllegalArgumentException; within(0, 0, 2147483647) = throws.IllegalArgumentException;"
                + "within(0, 0, -2147483648) = throws.IllegalArgumentException");
    }

    static void promise13_asNearAsToldCounts(Runs runs) {
        runs.run("addPoint(3, 4) = 0; addPoint(-5, 0) = 1; within(0, 0, 24) = 0; within(0, 0, 25) = 2; within(0, 0, 26) = 2;"
                + "within(-5, 0, 0) = 1; within(-4, 0, 0) = 0; within(-4, 0, 1) = 1");
    }

    static void promise13_theFarthestPlaceOfAll(Runs runs) {
        runs.run("addPoint(-100, -100) = 0; within(999, 999, 2415601) = 0; within(999, 999, 2415602) = 1");
    }

    static void promise13_withoutPoints0(Runs runs) {
        runs.run("within(0, 0, 9999999) = 0; addPoint(0, 0) = 0; within(0, 0, 0) = 1; remove(0) = 0; within(0, 0, 0) = 0;"
                + "within(1000, 0, 5) = throws.IllegalArgumentException; within(0, 0, -1) = throws.IllegalArgumentException");
    }

    static void promise13_allTwelve(Runs runs) {
        runs.run(PointEdges.TWELVE + "within(0, 0, 121) = 12; within(0, 0, 120) = 11; within(0, 0, 99) = 10");
    }

    static void promise13_byEWithoutWeights(Runs runs) {
        runs.run("addPoint(3, 3) = 0; setWeight(0, 999) = 0; within(0, 0, 17) = 0; within(0, 0, 18) = 1");
    }

    static void promise14_kindsAreFour(Runs runs) {
        runs.run("addPoint(0, 0) = 0; addPoint(4, 2) = 1; cell('e', 0) = 953; cell('s', 0) = 945; cell('m', 0) = 979;"
                + "cell('p', 0) = 953; cell('e', 1) = 728; cell('s', 1) = 736; cell('m', 1) = 702; cell('p', 1) = 728;"
                + "cell('x', 0) = throws.IllegalArgumentException; cell('E', 0) = throws.IllegalArgumentException;"
                + "cell('d', 0) = throws.IllegalArgumentException; cell('a', 0) = throws.IllegalArgumentException;"
                + "cell(' ', 0) = throws.IllegalArgumentException");
    }

    static void promise14_placesAreFromMinus20To20(Runs runs) {
        runs.run("addPoint(100, 100) = 0; cell('e', 0) = 1681; cell('s', 0) = 1681; cell('m', 0) = 1681; cell('p', 0) = 1681;"
                + "addPoint(-1, 0) = 1; addPoint(-2, 0) = 2; cell('e', 2) = 779; cell('e', 1) = 902; cell('e', 0) = 0");
    }

    static void promise14_theOutermostPlacesBelongToIt(Runs runs) {
        runs.run("addPoint(0, 0) = 0; addPoint(39, 39) = 1; cell('e', 1) = 1; cell('e', 0) = 1680; move(1, -39, 39) = 6084;"
                + "cell('s', 1) = 1; cell('m', 1) = 1; move(1, -39, -39) = 6084; cell('p', 1) = 1; move(1, 39, -39) = 6084;"
                + "cell('e', 1) = 1");
    }

    static void promise14_aPlaceAsNearToTwoBelongsToTheLowestNumber(Runs runs) {
        runs.run("addPoint(40, 40) = 0; addPoint(0, 0) = 1; cell('e', 0) = 1; cell('e', 1) = 1680; cell('s', 0) = 1;"
                + "cell('m', 0) = 1; cell('p', 0) = 1; remove(0) = 1; addPoint(1, 1) = 0; move(1, 40, 40) = 3200;"
                + "move(0, 0, 0) = 2; cell('e', 0) = 1681; cell('s', 0) = 1681; cell('m', 0) = 1681; cell('p', 1) = 0");
    }

    static void promise14_aCellCanHaveNoPlace(Runs runs) {
        runs.run("addPoint(0, 0) = 0; addPoint(100, 100) = 1; cell('e', 1) = 0; cell('s', 1) = 0; cell('m', 1) = 0;"
                + "cell('p', 1) = 0; setWeight(0, 999) = 0; addPoint(10, 0) = 2; cell('p', 2) = 0; cell('p', 0) = 1681;"
                + "cell('e', 2) = 615");
    }

    static void promise14_weightsCountByPAlone(Runs runs) {
        runs.run("addPoint(0, 0) = 0; addPoint(10, 0) = 1; setWeight(1, 20) = 0; cell('e', 0) = 1066; cell('s', 0) = 1066;"
                + "cell('m', 0) = 1306; cell('p', 0) = 1025; cell('p', 1) = 656");
    }

    static void promise14_aPointThatIsNotThereIsRefused(Runs runs) {
        runs.run("cell('e', 0) = throws.IndexOutOfBoundsException; addPoint(0, 0) = 0; addPoint(1, 1) = 1; remove(0) = 1;"
                + "cell('e', 0) = throws.IndexOutOfBoundsException; cell('s', 2) = throws.IndexOutOfBoundsException;"
                + "cell('m', -1) = throws.IndexOutOfBoundsException; cell('p', 12) = throws.IndexOutOfBoundsException;"
                + "cell('e', 33) = throws.IndexOutOfBoundsException; cell('e', 1) = 1681");
    }

    static void promise14_thePointIsLookedAtAheadOfTheKind(Runs runs) {
        runs.run("addPoint(0, 0) = 0; cell('x', 1) = throws.IndexOutOfBoundsException; cell('x', -1) = throws.IndexOutOfBoundsException;"
                + "cell('x', 12) = throws.IndexOutOfBoundsException; cell('x', 0) = throws.IllegalArgumentException");
    }

    static void promise14_allCellsOfTwelveAreAllPlaces(Runs runs) {
        Nearestward ground = new Nearestward();
        for (int point = 0; point < 12; point++) {
            ground.addPoint(7 * point % 23 - 11, 5 * point % 17 - 8);
            ground.setWeight(point, 3 * point);
        }
        for (char kind : "esmp".toCharArray()) {
            int places = 0;
            for (int point = 0; point < 12; point++) {
                places += ground.cell(kind, point);
            }
            runs.expect(places == 1681, "the cells by " + kind + " have " + places + " places");
        }
        runs.run(PointEdges.TWELVE + "cell('e', 0) = 861; cell('e', 5) = 41; cell('e', 11) = 410");
    }

    static void promise15_leftIsAbove0AndRightBelow(Runs runs) {
        runs.run(SQUARE + "turn(0, 1, 2) = 1; turn(0, 2, 1) = -1; turn(2, 1, 0) = -1; turn(1, 2, 0) = 1; turn(3, 0, 1) = 1;"
                + "turn(3, 2, 1) = -1");
    }

    static void promise15_onOneLineNeither(Runs runs) {
        runs.run("addPoint(-100, -50) = 0; addPoint(100, 50) = 1; addPoint(0, 0) = 2; turn(0, 1, 2) = 0; turn(2, 0, 1) = 0;"
                + "turn(1, 2, 0) = 0; move(2, 0, 1) = 1; turn(0, 1, 2) = 1; move(2, 0, -1) = 4; turn(0, 1, 2) = -1");
    }

    static void promise15_thePointTwiceNeither(Runs runs) {
        runs.run(SQUARE + "turn(0, 0, 1) = 0; turn(0, 1, 0) = 0; turn(1, 0, 0) = 0; turn(2, 2, 2) = 0");
    }

    static void promise15_theWidestAndTheThinnest(Runs runs) {
        runs.run("addPoint(-100, -100) = 0; addPoint(100, -100) = 1; addPoint(-100, 100) = 2; addPoint(100, 99) = 3;"
                + "addPoint(99, 98) = 4; turn(0, 1, 2) = 1; turn(0, 2, 1) = -1; turn(0, 3, 4) = -1; turn(0, 4, 3) = 1");
    }

    static void promise15_aPointThatIsNotThereIsRefusedForAnyOfThem(Runs runs) {
        runs.run("turn(0, 0, 0) = throws.IndexOutOfBoundsException;" + SQUARE + "turn(4, 1, 2) = throws.IndexOutOfBoundsException;"
                + "turn(0, 4, 2) = throws.IndexOutOfBoundsException; turn(0, 1, 4) = throws.IndexOutOfBoundsException;"
                + "turn(-1, 1, 2) = throws.IndexOutOfBoundsException; turn(0, -1, 2) = throws.IndexOutOfBoundsException;"
                + "turn(0, 1, -1) = throws.IndexOutOfBoundsException; turn(12, 1, 2) = throws.IndexOutOfBoundsException;"
                + "turn(0, 12, 2) = throws.IndexOutOfBoundsException; turn(0, 1, 12) = throws.IndexOutOfBoundsException;"
                + "turn(4, 4, 4) = throws.IndexOutOfBoundsException; remove(1) = 3; turn(0, 1, 2) = throws.IndexOutOfBoundsException");
    }

    static void promise16_withinOnAndOutside(Runs runs) {
        runs.run(SQUARE + "addPoint(5, 5) = 4; addPoint(11, 11) = 5; inCircle(0, 1, 2, 4) = 1; inCircle(0, 1, 2, 3) = 0;"
                + "inCircle(0, 1, 2, 5) = -1; move(5, 12, 5) = 37; inCircle(0, 1, 2, 5) = 1; move(5, 13, 5) = 1;"
                + "inCircle(0, 1, 2, 5) = -1");
    }

    static void promise16_theThreeMayTurnEitherWay(Runs runs) {
        runs.run(SQUARE + "addPoint(9, 1) = 4; addPoint(-1, -1) = 5; inCircle(2, 1, 0, 4) = 1; inCircle(0, 2, 1, 4) = 1;"
                + "inCircle(1, 2, 0, 4) = 1; inCircle(2, 1, 0, 5) = -1; inCircle(0, 1, 2, 5) = -1; inCircle(2, 1, 0, 3) = 0");
    }

    static void promise16_oneOfTheThreeIsOnTheCircle(Runs runs) {
        runs.run(SQUARE + "inCircle(0, 1, 2, 0) = 0; inCircle(0, 1, 2, 1) = 0; inCircle(0, 1, 2, 2) = 0");
    }

    static void promise16_exactlyOnTheWidestCircle(Runs runs) {
        runs.run("addPoint(-100, -100) = 0; addPoint(100, -100) = 1; addPoint(100, 100) = 2; addPoint(-100, 100) = 3;"
                + "addPoint(-99, 100) = 4; addPoint(-100, 99) = 5; inCircle(0, 1, 2, 3) = 0; inCircle(0, 1, 2, 4) = 1;"
                + "inCircle(2, 1, 0, 5) = 1; inCircle(1, 2, 5, 3) = -1; inCircle(0, 1, 5, 3) = -1");
    }

    static void promise16_allButOnACircleFarWiderThanTheGround(Runs runs) {
        runs.run("addPoint(-100, -100) = 0; addPoint(0, 1) = 1; addPoint(100, 100) = 2; addPoint(-100, 100) = 3;"
                + "addPoint(-99, -98) = 4; inCircle(0, 1, 2, 3) = -1; inCircle(2, 1, 0, 3) = -1; inCircle(0, 1, 2, 4) = -1;"
                + "move(1, 1, 0) = 2; inCircle(0, 1, 2, 3) = 1; inCircle(0, 1, 2, 4) = 1");
    }

    static void promise16_threeThatDoNotTurnAreRefused(Runs runs) {
        runs.run("addPoint(0, 0) = 0; addPoint(5, 5) = 1; addPoint(-9, -9) = 2; addPoint(0, 9) = 3;"
                + "inCircle(0, 1, 2, 3) = throws.UnsupportedOperationException; inCircle(0, 0, 3, 1) = throws.UnsupportedOperationException;"
                + "inCircle(0, 3, 0, 1) = throws.UnsupportedOperationException; inCircle(3, 0, 0, 1) = throws.UnsupportedOperationException;"
                + "inCircle(0, 0, 0, 0) = throws.UnsupportedOperationException; inCircle(0, 1, 3, 2) = -1");
    }

    static void promise16_aPointThatIsNotThereIsRefusedForAnyOfThem(Runs runs) {
        runs.run("inCircle(0, 0, 0, 0) = throws.IndexOutOfBoundsException;" + SQUARE
                + "inCircle(4, 1, 2, 3) = throws.IndexOutOfBoundsException; inCircle(0, 4, 2, 3) = throws.IndexOutOfBoundsException;"
                + "inCircle(0, 1, 4, 3) = throws.IndexOutOfBoundsException; inCircle(0, 1, 2, 4) = throws.IndexOutOfBoundsException;"
                + "inCircle(-1, 1, 2, 3) = throws.IndexOutOfBoundsException; inCircle(0, -1, 2, 3) = throws.IndexOutOfBoundsException;"
                + "inCircle(0, 1, -1, 3) = throws.IndexOutOfBoundsException; inCircle(0, 1, 2, -1) = throws.IndexOutOfBoundsException;"
                + "inCircle(12, 1, 2, 3) = throws.IndexOutOfBoundsException; inCircle(0, 12, 2, 3) = throws.IndexOutOfBoundsException;"
                + "inCircle(0, 1, 12, 3) = throws.IndexOutOfBoundsException; inCircle(0, 1, 2, 12) = throws.IndexOutOfBoundsException");
    }

    static void promise16_thePointsAreLookedAtAheadOfTheTurn(Runs runs) {
        runs.run(SQUARE + "inCircle(0, 0, 0, 4) = throws.IndexOutOfBoundsException; inCircle(0, 0, 1, -1) = throws.IndexOutOfBoundsException;"
                + "inCircle(0, 0, 1, 12) = throws.IndexOutOfBoundsException; inCircle(4, 4, 4, 0) = throws.IndexOutOfBoundsException;"
                + "inCircle(0, 0, 1, 2) = throws.UnsupportedOperationException");
    }
}
