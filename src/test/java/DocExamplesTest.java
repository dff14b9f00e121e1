/** The examples of the document, as they stand there. */
public final class DocExamplesTest {
    public static void main(String[] args) {
        Runs runs = new Runs();
        runs.run("a square", "addPoint(0, 0) = 0; addPoint(10, 0) = 1; addPoint(10, 10) = 2; addPoint(0, 10) = 3;"
                + "countTriangles() = 2; isTriangle(0, 1, 2) = true; isTriangle(1, 2, 3) = false; areNeighbours(0, 2) = true");
        runs.run("a weight", "addPoint(0, 0) = 0; addPoint(9, 0) = 1; nearest('e', 4, 0) = 0; setWeight(1, 30) = 0;"
                + "nearest('p', 4, 0) = 1; nearness('p', 4, 0) = -5");
        runs.run("clusters", "addPoint(0, 0) = 0; addPoint(10, 0) = 1; addPoint(30, 0) = 2; cluster('a', 2, 1) = 0;"
                + "joinedAt('a', 1) = 400; joinedAt('z', 1) = 900; centre(1, 0) = 1; centreDistance(1) = 400");
        runs.run("a wall", "addPoint(-10, 0) = 0; addPoint(10, 0) = 1; addWall(0, -5, 0, 5) = 0; sees(-10, 0, 1) = false;"
                + "leastGuards() = 2; dropWall() = 0; leastGuards() = 1");
        runs.run("a change", "addPoint(0, 0) = 0; addPoint(20, 0) = 1; setSpeed(1, -3, 0) = true; nextTime(5, 0) = 4;"
                + "nextNearest(5, 0) = 1");
        runs.finish("DocExamplesTest");
    }
}
