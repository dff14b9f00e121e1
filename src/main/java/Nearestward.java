import java.util.NoSuchElementException;

/**
 * Who is nearest to what, among points and walls with whole coordinates.
 *
 * The calls of the face look at all that they are given and throw what the
 * document names. The classes inside are asked for points that are there
 * alone, and keep their rows from the start, so that a call makes nothing.
 */
public final class Nearestward {
    private static final int MOST_POINTS = 12;
    private static final int MOST_WALLS = 10;
    private static final int MOST_UNDO = 20;
    private static final int MOST_CENTRES = 4;
    private static final int MOST_WEIGHT = 999;
    private static final int MOST_SPEED = 9;
    private static final int MOST_PASS = 20;
    private static final int LAST_CHANGE = 99;
    private static final int MOST_WITHIN = 9999999;
    private static final int MOST_SIZE = 99999;
    private static final int GROUND_EDGE = 100;
    private static final int ASKED_EDGE = 999;
    private static final int CELL_EDGE = 20;
    private static final int ALL_SETS = 1 << MOST_POINTS;
    private static final int NONE = -1;
    /** No distance of two points comes up to it. */
    private static final int BEYOND_ALL = 1000000;

    private final Ground ground;
    private final History history;
    private final FatTriangles triangles;
    private final Graphs graphs;
    private final Hull hull;
    private final Shape shape;
    private final Walls walls;
    private final Cover cover;
    private final Clusters clusters;
    private final Centres centres;

    public Nearestward() {
        ground = new Ground();
        history = new History();
        triangles = new FatTriangles();
        graphs = new Graphs();
        hull = new Hull();
        shape = new Shape();
        walls = new Walls();
        cover = new Cover();
        clusters = new Clusters();
        centres = new Centres();
    }

    // ---- points

    public int addPoint(int x, int y)
            throws IllegalArgumentException, UnsupportedOperationException, IllegalStateException {
        needBoth(x, y, GROUND_EDGE);
        if (ground.numberAt(x, y) != NONE) {
            throw new UnsupportedOperationException("a point is there");
        }
        int point = ground.lowestFree();
        if (point == NONE) {
            throw new IllegalStateException("there are 12 points");
        }
        history.keep(ground);
        ground.put(point, x, y);
        return point;
    }

    public int remove(int point) throws IndexOutOfBoundsException {
        needPoint(point);
        history.keep(ground);
        ground.take(point);
        return ground.count();
    }

    public int move(int point, int x, int y)
            throws IndexOutOfBoundsException, IllegalArgumentException, UnsupportedOperationException {
        needPoint(point);
        needBoth(x, y, GROUND_EDGE);
        int holder = ground.numberAt(x, y);
        if (holder != NONE && holder != point) {
            throw new UnsupportedOperationException("another point is there");
        }
        int distance = ground.measure('e', point, x, y);
        history.keep(ground);
        ground.setPlace(point, x, y);
        return distance;
    }

    public int setWeight(int point, int weight) throws IndexOutOfBoundsException, IllegalArgumentException {
        needPoint(point);
        needRange(weight, 0, MOST_WEIGHT);
        int before = ground.weights[point];
        ground.weights[point] = weight;
        return before;
    }

    public int countPoints() {
        return ground.count();
    }

    public int pointAt(int x, int y) throws NoSuchElementException {
        int point = ground.numberAt(x, y);
        if (point == NONE) {
            throw new NoSuchElementException("no point is there");
        }
        return point;
    }

    public int undo() throws NoSuchElementException {
        if (history.count == 0) {
            throw new NoSuchElementException("no call can be taken back");
        }
        history.takeBack(ground);
        return history.count;
    }

    // ---- nearness

    public int nearest(char kind, int x, int y) throws IllegalArgumentException, NoSuchElementException {
        needKind(kind);
        needBoth(x, y, ASKED_EDGE);
        needSomePoint();
        return ground.nearestTo(kind, x, y);
    }

    public int nearness(char kind, int x, int y) throws IllegalArgumentException, NoSuchElementException {
        needKind(kind);
        needBoth(x, y, ASKED_EDGE);
        needSomePoint();
        int point = ground.nearestTo(kind, x, y);
        return ground.has(point) ? ground.measure(kind, point, x, y) : 0;
    }

    public int farthest(char kind, int x, int y) throws IllegalArgumentException, NoSuchElementException {
        needKind(kind);
        needBoth(x, y, ASKED_EDGE);
        needSomePoint();
        return ground.farthestFrom(kind, x, y);
    }

    public int nearestAt(char kind, int x, int y, int index)
            throws IllegalArgumentException, NoSuchElementException {
        needKind(kind);
        needBoth(x, y, ASKED_EDGE);
        for (int point = 0; point < MOST_POINTS; point++) {
            if (ground.has(point) && ground.countBefore(kind, point, x, y) == index) {
                return point;
            }
        }
        throw new NoSuchElementException("there is none with this index");
    }

    public int within(int x, int y, int distance) throws IllegalArgumentException {
        needBoth(x, y, ASKED_EDGE);
        needRange(distance, 0, MOST_WITHIN);
        int near = 0;
        for (int point = 0; point < MOST_POINTS; point++) {
            if (ground.has(point) && ground.measure('e', point, x, y) <= distance) {
                near++;
            }
        }
        return near;
    }

    public int cell(char kind, int point) throws IndexOutOfBoundsException, IllegalArgumentException {
        needPoint(point);
        needKind(kind);
        int places = 0;
        for (int x = -CELL_EDGE; x <= CELL_EDGE; x++) {
            for (int y = -CELL_EDGE; y <= CELL_EDGE; y++) {
                if (ground.isNearest(kind, point, x, y)) {
                    places++;
                }
            }
        }
        return places;
    }

    public int turn(int one, int other, int third) throws IndexOutOfBoundsException {
        needPoint(one);
        needPoint(other);
        needPoint(third);
        return ground.sideOf(one, other, third);
    }

    public int inCircle(int one, int other, int third, int point)
            throws IndexOutOfBoundsException, UnsupportedOperationException {
        needPoint(one);
        needPoint(other);
        needPoint(third);
        needPoint(point);
        if (ground.sideOf(one, other, third) == 0) {
            throw new UnsupportedOperationException("the three do not turn");
        }
        return ground.circleSideOf(one, other, third, point);
    }

    // ---- triangles, graphs, hulls

    public int countTriangles() {
        triangles.findIn(ground);
        return triangles.count;
    }

    public boolean isTriangle(int one, int other, int third) throws IndexOutOfBoundsException {
        needPoint(one);
        needPoint(other);
        needPoint(third);
        triangles.findIn(ground);
        return triangles.holds(1 << one | 1 << other | 1 << third);
    }

    public boolean areNeighbours(int one, int other) throws IndexOutOfBoundsException {
        needPoint(one);
        needPoint(other);
        triangles.findIn(ground);
        return triangles.isEdge(one, other);
    }

    public int countNeighbours(int point) throws IndexOutOfBoundsException {
        needPoint(point);
        triangles.findIn(ground);
        return Integer.bitCount(triangles.neighbours[point]);
    }

    public boolean isJoined(char graph, int one, int other)
            throws IndexOutOfBoundsException, IllegalArgumentException {
        needPoint(one);
        needPoint(other);
        needGraph(graph);
        if (one == other) {
            throw new IllegalArgumentException("both are the same");
        }
        graphs.growTree(ground);
        return graphs.hasEdge(ground, graph, one, other);
    }

    public int countJoined(char graph) throws IllegalArgumentException {
        needGraph(graph);
        graphs.growTree(ground);
        return graphs.countEdges(ground, graph);
    }

    public int treeSum() {
        graphs.growTree(ground);
        return graphs.treeDistance;
    }

    public int steps(int one, int other) throws IndexOutOfBoundsException, NoSuchElementException {
        needPoint(one);
        needPoint(other);
        triangles.findIn(ground);
        int least = triangles.wayLength(one, other);
        if (least == NONE) {
            throw new NoSuchElementException("there is no way");
        }
        return least;
    }

    public int countHull() {
        hull.findIn(ground);
        return hull.count;
    }

    public int hullAt(int index) throws NoSuchElementException {
        hull.findIn(ground);
        if (index < 0 || index >= hull.count || index >= hull.corners.length) {
            throw new NoSuchElementException("the hull has no such point");
        }
        return hull.corners[index];
    }

    public int hullArea() {
        hull.findIn(ground);
        return hull.doubleArea(ground);
    }

    public int layer(int point) throws IndexOutOfBoundsException {
        needPoint(point);
        return hull.layerOf(ground, point);
    }

    public int depth(int point) throws IndexOutOfBoundsException {
        needPoint(point);
        return hull.depthOf(ground, point);
    }

    // ---- shapes, walls, moving

    public int countParts(int q) throws IllegalArgumentException {
        needRange(q, 0, MOST_SIZE);
        triangles.findIn(ground);
        shape.cutAt(ground, triangles, q);
        return shape.parts.count;
    }

    public int countHoles(int q) throws IllegalArgumentException {
        needRange(q, 0, MOST_SIZE);
        triangles.findIn(ground);
        shape.cutAt(ground, triangles, q);
        return shape.edges - ground.count() + shape.parts.count - shape.filled;
    }

    public int addWall(int fromX, int fromY, int toX, int toY)
            throws IllegalArgumentException, IllegalStateException {
        needBoth(fromX, fromY, GROUND_EDGE);
        needBoth(toX, toY, GROUND_EDGE);
        if (fromX == toX && fromY == toY) {
            throw new IllegalArgumentException("both ends are the same");
        }
        if (walls.count >= MOST_WALLS) {
            throw new IllegalStateException("there are 10 walls");
        }
        walls.append(fromX, fromY, toX, toY);
        return walls.count - 1;
    }

    public int dropWall() throws NoSuchElementException {
        if (walls.count == 0) {
            throw new NoSuchElementException("there is no wall");
        }
        walls.count--;
        return walls.count;
    }

    public boolean sees(int x, int y, int point) throws IndexOutOfBoundsException, IllegalArgumentException {
        needPoint(point);
        needBoth(x, y, GROUND_EDGE);
        return walls.leaveOpen(x, y, ground.xs[point], ground.ys[point]);
    }

    public int countSeen(int point) throws IndexOutOfBoundsException {
        needPoint(point);
        return Integer.bitCount(seenFrom(point) & ~(1 << point));
    }

    public int leastGuards() {
        for (int point = 0; point < MOST_POINTS; point++) {
            cover.reach[point] = ground.has(point) ? seenFrom(point) | 1 << point : 0;
        }
        return cover.fewestFor(ground.there);
    }

    public boolean setSpeed(int point, int x, int y) throws IndexOutOfBoundsException, IllegalArgumentException {
        needPoint(point);
        needBoth(x, y, MOST_SPEED);
        boolean stoodStill = !ground.isMoving(point);
        ground.speedXs[point] = x;
        ground.speedYs[point] = y;
        return stoodStill;
    }

    public int pass(int time) throws IllegalArgumentException, UnsupportedOperationException {
        needRange(time, 1, MOST_PASS);
        if (!ground.hasRoomAfter(time)) {
            throw new UnsupportedOperationException("a point would be beyond, or two at the same place");
        }
        return ground.goOn(time);
    }

    public int nextNearest(int x, int y) throws IllegalArgumentException, NoSuchElementException {
        needBoth(x, y, GROUND_EDGE);
        return ground.nearestAfter(timeOfChange(x, y), x, y);
    }

    public int nextTime(int x, int y) throws IllegalArgumentException, NoSuchElementException {
        needBoth(x, y, GROUND_EDGE);
        return timeOfChange(x, y);
    }

    // ---- clusters and centres

    public int cluster(char law, int many, int point) throws IndexOutOfBoundsException, IllegalArgumentException {
        needPoint(point);
        needLaw(law);
        needRange(many, 1, ground.count());
        clusters.cutTo(ground, law, many);
        return clusters.parts.part[point];
    }

    public int joinedAt(char law, int many) throws IllegalArgumentException {
        needLaw(law);
        needRange(many, 1, ground.count() - 1);
        clusters.cutTo(ground, law, many);
        return clusters.lastDistance;
    }

    public int centreDistance(int many) throws IllegalArgumentException, NoSuchElementException {
        needRange(many, 1, MOST_CENTRES);
        needSoMany(many);
        centres.choose(ground, many);
        return centres.distance;
    }

    public int centre(int many, int index) throws IllegalArgumentException, NoSuchElementException {
        needRange(many, 1, MOST_CENTRES);
        needRange(index, 0, many - 1);
        needSoMany(many);
        centres.choose(ground, many);
        return centres.chosenAt(index);
    }

    public int countDiscs(int distance) throws IllegalArgumentException {
        needRange(distance, 0, MOST_SIZE);
        for (int point = 0; point < MOST_POINTS; point++) {
            cover.reach[point] = ground.has(point) ? coveredFrom(point, distance) : 0;
        }
        return cover.fewestFor(ground.there);
    }

    public float getHullShare() throws ArithmeticException {
        int all = ground.count();
        if (all == 0) {
            throw new ArithmeticException("there are no points");
        }
        hull.findIn(ground);
        return (float) hull.count / (float) all;
    }

    public double getMeanNeighbours() throws ArithmeticException {
        int all = ground.count();
        if (all == 0) {
            throw new ArithmeticException("there are no points");
        }
        triangles.findIn(ground);
        return (double) (2 * triangles.countEdges()) / (double) all;
    }

    public long checksum() {
        long sum = 7;
        for (int point = 0; point < MOST_POINTS; point++) {
            if (ground.has(point)) {
                sum = 31 * sum + point;
                sum = 31 * sum + ground.xs[point];
                sum = 31 * sum + ground.ys[point];
                sum = 31 * sum + ground.weights[point];
            }
        }
        triangles.findIn(ground);
        sum = 31 * sum + walls.count;
        return 31 * sum + triangles.count;
    }

    public boolean isSound() {
        triangles.findIn(ground);
        graphs.growTree(ground);
        return circlesAreEmpty() && countsFit() && treeIsOfNeighbours() && graphsAreNested();
    }

    // ---- what the calls ask for before they answer

    private void needPoint(int point) {
        if (!ground.has(point)) {
            throw new IndexOutOfBoundsException("there is no such point");
        }
    }

    private static void needRange(int number, int least, int most) {
        if (number < least || number > most) {
            throw new IllegalArgumentException("a number is out of range");
        }
    }

    private static void needBoth(int x, int y, int edge) {
        needRange(x, -edge, edge);
        needRange(y, -edge, edge);
    }

    private static void needKind(char kind) {
        if (kind != 'e' && kind != 's' && kind != 'm' && kind != 'p') {
            throw new IllegalArgumentException("there is no such kind of nearness");
        }
    }

    private static void needGraph(char graph) {
        if (graph != 'g' && graph != 'r' && graph != 'n' && graph != 't') {
            throw new IllegalArgumentException("there is no such graph");
        }
    }

    private static void needLaw(char law) {
        if (law != 'a' && law != 'z') {
            throw new IllegalArgumentException("there is no such law");
        }
    }

    private void needSomePoint() {
        if (ground.there == 0) {
            throw new NoSuchElementException("there are no points");
        }
    }

    private void needSoMany(int many) {
        if (ground.count() < many) {
            throw new NoSuchElementException("there are fewer points");
        }
    }

    // ---- what several calls, or one of many parts, need

    private int timeOfChange(int x, int y) {
        needSomePoint();
        int now = ground.nearestAfter(0, x, y);
        for (int time = 1; time <= LAST_CHANGE; time++) {
            if (ground.nearestAfter(time, x, y) != now) {
                return time;
            }
        }
        throw new NoSuchElementException("there is no change");
    }

    private int seenFrom(int point) {
        int seen = 0;
        for (int other = 0; other < MOST_POINTS; other++) {
            if (ground.has(other)
                    && walls.leaveOpen(ground.xs[point], ground.ys[point], ground.xs[other], ground.ys[other])) {
                seen |= 1 << other;
            }
        }
        return seen;
    }

    private int coveredFrom(int point, int distance) {
        int covered = 0;
        for (int other = 0; other < MOST_POINTS; other++) {
            if (ground.has(other) && ground.distance(point, other) <= distance) {
                covered |= 1 << other;
            }
        }
        return covered;
    }

    private boolean circlesAreEmpty() {
        for (int index = 0; index < triangles.count; index++) {
            for (int point = 0; point < MOST_POINTS; point++) {
                if (ground.has(point) && triangles.hasWithin(ground, index, point)) {
                    return false;
                }
            }
        }
        return true;
    }

    private boolean countsFit() {
        return !ground.someTurn() || triangles.count + ground.count() == triangles.countEdges() + 1;
    }

    private boolean treeIsOfNeighbours() {
        if (!ground.someTurn()) {
            return true;
        }
        for (int one = 0; one < MOST_POINTS; one++) {
            if ((graphs.tree[one] & ~triangles.neighbours[one]) != 0) {
                return false;
            }
        }
        return true;
    }

    private boolean graphsAreNested() {
        for (int one = 0; one < MOST_POINTS; one++) {
            for (int other = one + 1; other < MOST_POINTS; other++) {
                if (ground.has(one) && ground.has(other) && !isNestedAt(one, other)) {
                    return false;
                }
            }
        }
        return true;
    }

    private boolean isNestedAt(int one, int other) {
        boolean inRelative = graphs.hasEdge(ground, 'r', one, other);
        if (graphs.hasEdge(ground, 't', one, other) && !inRelative) {
            return false;
        }
        return !inRelative || graphs.hasEdge(ground, 'g', one, other);
    }

    private static int signOf(long number) {
        if (number > 0) {
            return 1;
        }
        return number < 0 ? -1 : 0;
    }

    private static boolean isIn(int set, int number) {
        return (set >> number & 1) != 0;
    }

    /** The points that are there, by their numbers, and all that is told of two to four of them. */
    private static final class Ground {
        final int[] xs = new int[MOST_POINTS];
        final int[] ys = new int[MOST_POINTS];
        final int[] weights = new int[MOST_POINTS];
        final int[] speedXs = new int[MOST_POINTS];
        final int[] speedYs = new int[MOST_POINTS];
        int there;
        /** Rises with every change of places, so that what was found in them is known to be old. */
        int changes;

        boolean has(int point) {
            return point >= 0 && point < MOST_POINTS && isIn(there, point);
        }

        int count() {
            return Integer.bitCount(there);
        }

        int numberAt(int x, int y) {
            for (int point = 0; point < MOST_POINTS; point++) {
                if (has(point) && xs[point] == x && ys[point] == y) {
                    return point;
                }
            }
            return NONE;
        }

        int lowestFree() {
            for (int point = 0; point < MOST_POINTS; point++) {
                if (!has(point)) {
                    return point;
                }
            }
            return NONE;
        }

        void put(int point, int x, int y) {
            there |= 1 << point;
            weights[point] = 0;
            speedXs[point] = 0;
            speedYs[point] = 0;
            setPlace(point, x, y);
        }

        void take(int point) {
            there &= ~(1 << point);
            changes++;
        }

        void setPlace(int point, int x, int y) {
            xs[point] = x;
            ys[point] = y;
            changes++;
        }

        boolean isMoving(int point) {
            return speedXs[point] != 0 || speedYs[point] != 0;
        }

        int measure(char kind, int point, int x, int y) {
            int across = Math.abs(xs[point] - x);
            int up = Math.abs(ys[point] - y);
            if (kind == 's') {
                return across + up;
            }
            if (kind == 'm') {
                return Math.max(across, up);
            }
            int square = across * across + up * up;
            return kind == 'p' ? square - weights[point] : square;
        }

        int nearestTo(char kind, int x, int y) {
            int best = NONE;
            int least = 0;
            for (int point = 0; point < MOST_POINTS; point++) {
                if (has(point)) {
                    int near = measure(kind, point, x, y);
                    if (best == NONE || near < least) {
                        best = point;
                        least = near;
                    }
                }
            }
            return best;
        }

        int farthestFrom(char kind, int x, int y) {
            int best = NONE;
            int greatest = 0;
            for (int point = 0; point < MOST_POINTS; point++) {
                if (has(point)) {
                    int far = measure(kind, point, x, y);
                    if (best == NONE || far > greatest) {
                        best = point;
                        greatest = far;
                    }
                }
            }
            return best;
        }

        int countBefore(char kind, int point, int x, int y) {
            int own = measure(kind, point, x, y);
            int before = 0;
            for (int other = 0; other < MOST_POINTS; other++) {
                if (has(other) && goesBefore(measure(kind, other, x, y), other, own, point)) {
                    before++;
                }
            }
            return before;
        }

        boolean isNearest(char kind, int point, int x, int y) {
            int own = measure(kind, point, x, y);
            for (int other = 0; other < MOST_POINTS; other++) {
                if (has(other) && goesBefore(measure(kind, other, x, y), other, own, point)) {
                    return false;
                }
            }
            return true;
        }

        private static boolean goesBefore(int near, int number, int ownNear, int ownNumber) {
            return near < ownNear || near == ownNear && number < ownNumber;
        }

        int distance(int one, int other) {
            int across = xs[one] - xs[other];
            int up = ys[one] - ys[other];
            return across * across + up * up;
        }

        /** Twice the area of three points, above 0 if they turn left. */
        int doubleAreaOf(int one, int other, int third) {
            return (xs[other] - xs[one]) * (ys[third] - ys[one]) - (ys[other] - ys[one]) * (xs[third] - xs[one]);
        }

        int sideOf(int one, int other, int third) {
            return signOf(doubleAreaOf(one, other, third));
        }

        /** The determinant passes the range of int, and its sign turns with the three points. */
        int circleSideOf(int one, int other, int third, int point) {
            long ax = xs[one] - xs[point];
            long ay = ys[one] - ys[point];
            long bx = xs[other] - xs[point];
            long by = ys[other] - ys[point];
            long cx = xs[third] - xs[point];
            long cy = ys[third] - ys[point];
            long determinant = (ax * ax + ay * ay) * (bx * cy - by * cx)
                    + (bx * bx + by * by) * (cx * ay - cy * ax)
                    + (cx * cx + cy * cy) * (ax * by - ay * bx);
            return signOf(determinant) * sideOf(one, other, third);
        }

        boolean someTurn() {
            int first = NONE;
            int second = NONE;
            for (int point = 0; point < MOST_POINTS; point++) {
                if (!has(point)) {
                    continue;
                }
                if (first == NONE) {
                    first = point;
                } else if (second == NONE) {
                    second = point;
                } else if (sideOf(first, second, point) != 0) {
                    return true;
                }
            }
            return false;
        }

        int nearestAfter(int time, int x, int y) {
            int best = NONE;
            int least = 0;
            for (int point = 0; point < MOST_POINTS; point++) {
                if (has(point)) {
                    int across = xs[point] + time * speedXs[point] - x;
                    int up = ys[point] + time * speedYs[point] - y;
                    int near = across * across + up * up;
                    if (best == NONE || near < least) {
                        best = point;
                        least = near;
                    }
                }
            }
            return best;
        }

        boolean hasRoomAfter(int time) {
            for (int point = 0; point < MOST_POINTS; point++) {
                if (has(point) && (isBeyondAfter(time, point) || isMetAfter(time, point))) {
                    return false;
                }
            }
            return true;
        }

        private boolean isBeyondAfter(int time, int point) {
            return Math.abs(xs[point] + time * speedXs[point]) > GROUND_EDGE
                    || Math.abs(ys[point] + time * speedYs[point]) > GROUND_EDGE;
        }

        private boolean isMetAfter(int time, int point) {
            for (int other = 0; other < point; other++) {
                if (has(other)
                        && xs[point] + time * speedXs[point] == xs[other] + time * speedXs[other]
                        && ys[point] + time * speedYs[point] == ys[other] + time * speedYs[other]) {
                    return true;
                }
            }
            return false;
        }

        int goOn(int time) {
            int moved = 0;
            for (int point = 0; point < MOST_POINTS; point++) {
                if (has(point) && isMoving(point)) {
                    setPlace(point, xs[point] + time * speedXs[point], ys[point] + time * speedYs[point]);
                    moved++;
                }
            }
            return moved;
        }

        void writeTo(int[] row) {
            for (int point = 0; point < MOST_POINTS; point++) {
                int at = point * History.FIELDS;
                if (at + History.FIELDS <= row.length) {
                    row[at] = has(point) ? 1 : 0;
                    row[at + 1] = xs[point];
                    row[at + 2] = ys[point];
                    row[at + 3] = weights[point];
                    row[at + 4] = speedXs[point];
                    row[at + 5] = speedYs[point];
                }
            }
        }

        void readFrom(int[] row) {
            there = 0;
            for (int point = 0; point < MOST_POINTS; point++) {
                int at = point * History.FIELDS;
                if (at + History.FIELDS <= row.length) {
                    there |= row[at] << point;
                    xs[point] = row[at + 1];
                    ys[point] = row[at + 2];
                    weights[point] = row[at + 3];
                    speedXs[point] = row[at + 4];
                    speedYs[point] = row[at + 5];
                }
            }
            changes++;
        }
    }

    /** The grounds as they were ahead of the last calls that can be taken back, in a ring. */
    private static final class History {
        static final int FIELDS = 6;
        private final int[][] rows = new int[MOST_UNDO][MOST_POINTS * FIELDS];
        private int next;
        int count;

        void keep(Ground ground) {
            ground.writeTo(rows[next]);
            next = next + 1 < MOST_UNDO ? next + 1 : 0;
            count = Math.min(count + 1, MOST_UNDO);
        }

        void takeBack(Ground ground) {
            next = next > 0 ? next - 1 : MOST_UNDO - 1;
            count--;
            ground.readFrom(rows[next]);
        }
    }

    /** The fat triangles, each as the set of its corners, and the neighbours by them. */
    private static final class FatTriangles {
        /** Twelve points leave at most 19 triangles side by side. */
        private static final int MOST = 24;
        private final int[] corners = new int[3 * MOST];
        final int[] neighbours = new int[MOST_POINTS];
        int count;
        private int foundAt = NONE;

        void findIn(Ground ground) {
            if (foundAt == ground.changes) {
                return;
            }
            foundAt = ground.changes;
            count = 0;
            for (int point = 0; point < MOST_POINTS; point++) {
                neighbours[point] = 0;
            }
            for (int one = 0; one < MOST_POINTS; one++) {
                for (int other = one + 1; other < MOST_POINTS; other++) {
                    if (ground.has(one) && ground.has(other)) {
                        findWith(ground, one, other);
                    }
                }
            }
        }

        private void findWith(Ground ground, int one, int other) {
            for (int third = other + 1; third < MOST_POINTS; third++) {
                if (ground.has(third) && count < MOST && isFat(ground, one, other, third)) {
                    corners[3 * count] = one;
                    corners[3 * count + 1] = other;
                    corners[3 * count + 2] = third;
                    count++;
                    neighbours[one] |= 1 << other | 1 << third;
                    neighbours[other] |= 1 << one | 1 << third;
                    neighbours[third] |= 1 << one | 1 << other;
                }
            }
        }

        /**
         * The three come by rising numbers. So on a circle with more points the
         * fan goes from the first one, or not by these three, and the other two are
         * side by side if all the rest lies where the first one does.
         */
        private static boolean isFat(Ground ground, int one, int other, int third) {
            int side = ground.sideOf(other, third, one);
            if (side == 0) {
                return false;
            }
            for (int point = 0; point < MOST_POINTS; point++) {
                if (!ground.has(point) || point == one || point == other || point == third) {
                    continue;
                }
                int where = ground.circleSideOf(one, other, third, point);
                if (where > 0) {
                    return false;
                }
                if (where == 0 && (point < one || ground.sideOf(other, third, point) != side)) {
                    return false;
                }
            }
            return true;
        }

        boolean holds(int set) {
            for (int index = 0; index < count && index < MOST; index++) {
                if ((1 << corners[3 * index] | 1 << corners[3 * index + 1] | 1 << corners[3 * index + 2]) == set) {
                    return true;
                }
            }
            return false;
        }

        boolean hasWithin(Ground ground, int index, int point) {
            if (index < 0 || index >= MOST) {
                return false;
            }
            return ground.circleSideOf(corners[3 * index], corners[3 * index + 1], corners[3 * index + 2], point) > 0;
        }

        /** The square of the radius is that of all sides by four times that of the double area: no division. */
        boolean isFilled(Ground ground, int index, int q) {
            if (index < 0 || index >= MOST) {
                return false;
            }
            int one = corners[3 * index];
            int other = corners[3 * index + 1];
            int third = corners[3 * index + 2];
            long sides = (long) ground.distance(one, other) * ground.distance(other, third)
                    * ground.distance(third, one);
            long area = ground.doubleAreaOf(one, other, third);
            return sides <= 4 * q * area * area;
        }

        boolean isEdge(int one, int other) {
            return isIn(neighbours[one], other);
        }

        int countEdges() {
            int ends = 0;
            for (int point = 0; point < MOST_POINTS; point++) {
                ends += Integer.bitCount(neighbours[point]);
            }
            return ends >> 1;
        }

        int wayLength(int one, int other) {
            int reached = 1 << one;
            for (int length = 0; length < MOST_POINTS; length++) {
                if (isIn(reached, other)) {
                    return length;
                }
                reached |= allNeighboursOf(reached);
            }
            return NONE;
        }

        private int allNeighboursOf(int set) {
            int all = 0;
            for (int point = 0; point < MOST_POINTS; point++) {
                if (isIn(set, point)) {
                    all |= neighbours[point];
                }
            }
            return all;
        }
    }

    /** Points parted into sets, each with the number of the lowest point in it. */
    private static final class Parts {
        final int[] part = new int[MOST_POINTS];
        int count;

        void startWith(Ground ground) {
            for (int point = 0; point < MOST_POINTS; point++) {
                part[point] = ground.has(point) ? point : NONE;
            }
            count = ground.count();
        }

        boolean isLowest(int point) {
            return part[point] == point;
        }

        boolean areApart(int one, int other) {
            return part[one] != part[other];
        }

        void unite(int one, int other) {
            int low = Math.min(part[one], part[other]);
            int high = Math.max(part[one], part[other]);
            if (low == high) {
                return;
            }
            for (int point = 0; point < MOST_POINTS; point++) {
                if (part[point] == high) {
                    part[point] = low;
                }
            }
            count--;
        }
    }

    /** The graphs of neighbours over all points, and the least spanning tree. */
    private static final class Graphs {
        private final Parts parts = new Parts();
        final int[] tree = new int[MOST_POINTS];
        int treeDistance;
        private int grownAt = NONE;

        boolean hasEdge(Ground ground, char graph, int one, int other) {
            if (graph == 't') {
                return isIn(tree[one], other);
            }
            if (graph == 'n') {
                return nearestOther(ground, one) == other || nearestOther(ground, other) == one;
            }
            for (int point = 0; point < MOST_POINTS; point++) {
                if (ground.has(point) && point != one && point != other
                        && isBetween(ground, graph, one, other, point)) {
                    return false;
                }
            }
            return true;
        }

        private static boolean isBetween(Ground ground, char graph, int one, int other, int point) {
            int all = ground.distance(one, other);
            int first = ground.distance(one, point);
            int second = ground.distance(other, point);
            if (graph == 'g') {
                return first + second < all;
            }
            return first < all && second < all;
        }

        private static int nearestOther(Ground ground, int point) {
            int best = NONE;
            int least = 0;
            for (int other = 0; other < MOST_POINTS; other++) {
                if (ground.has(other) && other != point) {
                    int near = ground.distance(point, other);
                    if (best == NONE || near < least) {
                        best = other;
                        least = near;
                    }
                }
            }
            return best;
        }

        int countEdges(Ground ground, char graph) {
            int edges = 0;
            for (int one = 0; one < MOST_POINTS; one++) {
                for (int other = one + 1; other < MOST_POINTS; other++) {
                    if (ground.has(one) && ground.has(other) && hasEdge(ground, graph, one, other)) {
                        edges++;
                    }
                }
            }
            return edges;
        }

        void growTree(Ground ground) {
            if (grownAt == ground.changes) {
                return;
            }
            grownAt = ground.changes;
            parts.startWith(ground);
            treeDistance = 0;
            for (int point = 0; point < MOST_POINTS; point++) {
                tree[point] = 0;
            }
            for (int left = ground.count(); left > 1; left--) {
                takeNextEdge(ground);
            }
        }

        private void takeNextEdge(Ground ground) {
            int low = NONE;
            int high = NONE;
            int least = 0;
            for (int one = 0; one < MOST_POINTS; one++) {
                for (int other = one + 1; other < MOST_POINTS; other++) {
                    if (ground.has(one) && ground.has(other) && parts.areApart(one, other)) {
                        int distance = ground.distance(one, other);
                        if (low == NONE || distance < least) {
                            low = one;
                            high = other;
                            least = distance;
                        }
                    }
                }
            }
            if (low != NONE && high != NONE) {
                parts.unite(low, high);
                tree[low] |= 1 << high;
                tree[high] |= 1 << low;
                treeDistance += least;
            }
        }
    }

    /** The hull in its order, the layers, and how deep a point lies. */
    private static final class Hull {
        final int[] corners = new int[MOST_POINTS];
        int count;

        void findIn(Ground ground) {
            count = 0;
            int first = lowestPlaced(ground);
            int at = first;
            for (int index = 0; index < MOST_POINTS && at != NONE; index++) {
                corners[index] = at;
                count = index + 1;
                at = cornerAfter(ground, at);
                if (at == first) {
                    at = NONE;
                }
            }
        }

        private static int lowestPlaced(Ground ground) {
            int best = NONE;
            for (int point = 0; point < MOST_POINTS; point++) {
                if (ground.has(point) && (best == NONE || isLower(ground, point, best))) {
                    best = point;
                }
            }
            return best;
        }

        private static boolean isLower(Ground ground, int one, int other) {
            if (ground.ys[one] != ground.ys[other]) {
                return ground.ys[one] < ground.ys[other];
            }
            return ground.xs[one] < ground.xs[other];
        }

        /** Of several in one direction the farthest one, so that none is in the middle of a side. */
        private static int cornerAfter(Ground ground, int at) {
            int best = NONE;
            for (int point = 0; point < MOST_POINTS; point++) {
                if (!ground.has(point) || point == at) {
                    continue;
                }
                int side = best == NONE ? -1 : ground.sideOf(at, best, point);
                if (side < 0 || side == 0 && ground.distance(at, point) > ground.distance(at, best)) {
                    best = point;
                }
            }
            return best;
        }

        int doubleArea(Ground ground) {
            int area = 0;
            for (int index = 1; index + 1 < count && index + 1 < MOST_POINTS; index++) {
                area += ground.doubleAreaOf(corners[0], corners[index], corners[index + 1]);
            }
            return area;
        }

        int layerOf(Ground ground, int point) {
            int left = ground.there;
            for (int layers = 0; layers < MOST_POINTS; layers++) {
                int outer = outermostOf(ground, left);
                if (isIn(outer, point)) {
                    return layers;
                }
                left &= ~outer;
            }
            return MOST_POINTS;
        }

        private static int outermostOf(Ground ground, int set) {
            int outer = 0;
            for (int point = 0; point < MOST_POINTS; point++) {
                if (isIn(set, point) && isOutermost(ground, set, point)) {
                    outer |= 1 << point;
                }
            }
            return outer;
        }

        private static boolean isOutermost(Ground ground, int set, int point) {
            for (int other = 0; other < MOST_POINTS; other++) {
                if (isIn(set, other) && other != point && isOnBorder(ground, set, point, other)) {
                    return true;
                }
            }
            return set == 1 << point;
        }

        private static boolean isOnBorder(Ground ground, int set, int from, int to) {
            return countAt(ground, set, from, to, 1) == 0 || countAt(ground, set, from, to, -1) == 0;
        }

        private static int countAt(Ground ground, int set, int from, int to, int side) {
            int points = 0;
            for (int point = 0; point < MOST_POINTS; point++) {
                if (isIn(set, point) && ground.sideOf(from, to, point) == side) {
                    points++;
                }
            }
            return points;
        }

        /**
         * A line that meets other points is never better than the same line turned
         * a little, to the one or to the other side: then those ahead of the
         * point and those behind it on the line come to different sides.
         */
        int depthOf(Ground ground, int point) {
            int fewest = ground.count();
            for (int other = 0; other < MOST_POINTS; other++) {
                if (ground.has(other) && other != point) {
                    int left = countAt(ground, ground.there, point, other, 1);
                    int right = countAt(ground, ground.there, point, other, -1);
                    int ahead = countAhead(ground, point, other);
                    int behind = ground.count() - 1 - left - right - ahead;
                    fewest = Math.min(fewest, 1 + Math.min(left, right) + Math.min(ahead, behind));
                }
            }
            return fewest;
        }

        private static int countAhead(Ground ground, int from, int to) {
            int ahead = 0;
            for (int point = 0; point < MOST_POINTS; point++) {
                if (ground.has(point) && ground.sideOf(from, to, point) == 0) {
                    int along = (ground.xs[to] - ground.xs[from]) * (ground.xs[point] - ground.xs[from])
                            + (ground.ys[to] - ground.ys[from]) * (ground.ys[point] - ground.ys[from]);
                    ahead += along > 0 ? 1 : 0;
                }
            }
            return ahead;
        }
    }

    /** What a number leaves of the fat triangles: joined edges, filled triangles, parts. */
    private static final class Shape {
        final Parts parts = new Parts();
        int edges;
        int filled;

        void cutAt(Ground ground, FatTriangles triangles, int q) {
            parts.startWith(ground);
            edges = 0;
            for (int one = 0; one < MOST_POINTS; one++) {
                for (int other = one + 1; other < MOST_POINTS; other++) {
                    if (triangles.isEdge(one, other) && ground.distance(one, other) <= 4 * q) {
                        edges++;
                        parts.unite(one, other);
                    }
                }
            }
            filled = 0;
            for (int index = 0; index < triangles.count; index++) {
                if (triangles.isFilled(ground, index, q)) {
                    filled++;
                }
            }
        }
    }

    /** The walls, the last one at the end. */
    private static final class Walls {
        private final int[] fromXs = new int[MOST_WALLS];
        private final int[] fromYs = new int[MOST_WALLS];
        private final int[] toXs = new int[MOST_WALLS];
        private final int[] toYs = new int[MOST_WALLS];
        int count;

        void append(int fromX, int fromY, int toX, int toY) {
            if (count < 0 || count >= MOST_WALLS) {
                return;
            }
            fromXs[count] = fromX;
            fromYs[count] = fromY;
            toXs[count] = toX;
            toYs[count] = toY;
            count++;
        }

        boolean leaveOpen(int x, int y, int otherX, int otherY) {
            for (int wall = 0; wall < count && wall < MOST_WALLS; wall++) {
                if (spansMeet(wall, x, y, otherX, otherY) && linesCross(wall, x, y, otherX, otherY)) {
                    return false;
                }
            }
            return true;
        }

        /** The crossing of lines alone would let ways and walls meet that lie far apart on one line. */
        private boolean spansMeet(int wall, int x, int y, int otherX, int otherY) {
            return Math.min(x, otherX) <= Math.max(fromXs[wall], toXs[wall])
                    && Math.max(x, otherX) >= Math.min(fromXs[wall], toXs[wall])
                    && Math.min(y, otherY) <= Math.max(fromYs[wall], toYs[wall])
                    && Math.max(y, otherY) >= Math.min(fromYs[wall], toYs[wall]);
        }

        private boolean linesCross(int wall, int x, int y, int otherX, int otherY) {
            int fromX = fromXs[wall];
            int fromY = fromYs[wall];
            int toX = toXs[wall];
            int toY = toYs[wall];
            return side(fromX, fromY, toX, toY, x, y) * side(fromX, fromY, toX, toY, otherX, otherY) <= 0
                    && side(x, y, otherX, otherY, fromX, fromY) * side(x, y, otherX, otherY, toX, toY) <= 0;
        }

        private static int side(int fromX, int fromY, int toX, int toY, int x, int y) {
            return signOf((toX - fromX) * (y - fromY) - (toY - fromY) * (x - fromX));
        }
    }

    /** The fewest points whose reaches together hold all points. */
    private static final class Cover {
        final int[] reach = new int[MOST_POINTS];

        int fewestFor(int all) {
            int fewest = Integer.bitCount(all);
            for (int set = 0; set < ALL_SETS; set++) {
                if ((set & ~all) == 0 && Integer.bitCount(set) < fewest && reachOf(set) == all) {
                    fewest = Integer.bitCount(set);
                }
            }
            return fewest;
        }

        private int reachOf(int set) {
            int reached = 0;
            for (int point = 0; point < MOST_POINTS; point++) {
                if (isIn(set, point)) {
                    reached |= reach[point];
                }
            }
            return reached;
        }
    }

    /** The points joined again and again by rising distances of clusters. */
    private static final class Clusters {
        final Parts parts = new Parts();
        private final int[][] apart = new int[MOST_POINTS][MOST_POINTS];
        int lastDistance;

        void cutTo(Ground ground, char law, int many) {
            parts.startWith(ground);
            lastDistance = 0;
            for (int one = 0; one < MOST_POINTS; one++) {
                for (int other = 0; other < MOST_POINTS; other++) {
                    apart[one][other] = ground.has(one) && ground.has(other) ? ground.distance(one, other) : 0;
                }
            }
            for (int left = ground.count(); left > many; left--) {
                joinNearest(law);
            }
        }

        private void joinNearest(char law) {
            int low = NONE;
            int high = NONE;
            for (int one = 0; one < MOST_POINTS; one++) {
                for (int other = one + 1; other < MOST_POINTS; other++) {
                    if (parts.isLowest(one) && parts.isLowest(other)
                            && (low == NONE || apart[one][other] < lastDistance)) {
                        low = one;
                        high = other;
                        lastDistance = apart[one][other];
                    }
                }
            }
            if (low != NONE && high != NONE) {
                parts.unite(low, high);
                takeOver(law, low, high);
            }
        }

        private void takeOver(char law, int low, int high) {
            for (int other = 0; other < MOST_POINTS; other++) {
                int first = apart[low][other];
                int second = apart[high][other];
                int both = law == 'a' ? Math.min(first, second) : Math.max(first, second);
                apart[low][other] = both;
                apart[other][low] = both;
            }
        }
    }

    /** The points from which the farthest one is least far. */
    private static final class Centres {
        private int chosen;
        int distance;

        void choose(Ground ground, int many) {
            chosen = 0;
            distance = 0;
            for (int set = 1; set < ALL_SETS; set++) {
                if ((set & ~ground.there) == 0 && Integer.bitCount(set) == many) {
                    int far = farthestFrom(ground, set);
                    if (chosen == 0 || far < distance || far == distance && goesFirst(set, chosen)) {
                        chosen = set;
                        distance = far;
                    }
                }
            }
        }

        private static int farthestFrom(Ground ground, int set) {
            int greatest = 0;
            for (int point = 0; point < MOST_POINTS; point++) {
                if (ground.has(point)) {
                    greatest = Math.max(greatest, nearestOf(ground, set, point));
                }
            }
            return greatest;
        }

        private static int nearestOf(Ground ground, int set, int point) {
            int least = BEYOND_ALL;
            for (int middle = 0; middle < MOST_POINTS; middle++) {
                if (isIn(set, middle)) {
                    least = Math.min(least, ground.distance(point, middle));
                }
            }
            return least;
        }

        /** Of two sets of like size that one goes first that has the lowest number in which they differ. */
        private static boolean goesFirst(int set, int other) {
            int different = set ^ other;
            int lowest = different & -different;
            return (set & lowest) != 0;
        }

        int chosenAt(int index) {
            int before = 0;
            for (int point = 0; point < MOST_POINTS; point++) {
                if (isIn(chosen, point)) {
                    if (before == index) {
                        return point;
                    }
                    before++;
                }
            }
            return NONE;
        }
    }
}
