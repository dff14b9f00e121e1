import java.util.ArrayDeque;
import java.util.ArrayList;
import java.util.Arrays;
import java.util.Comparator;
import java.util.Deque;
import java.util.HashSet;
import java.util.List;
import java.util.Map;
import java.util.NoSuchElementException;
import java.util.Set;
import java.util.TreeMap;
import java.util.TreeSet;

/**
 * The document told a second time, in other ways than the class takes: centres of circles as fractions,
 * sorted edges, chains for hulls, lines tried one by one. It is slow and makes what it likes.
 */
final class Oracle {
    private record Point(int x, int y, int weight, int speedX, int speedY) {
        Point at(int newX, int newY) {
            return new Point(newX, newY, weight, speedX, speedY);
        }

        Point after(int time) {
            return at(x + time * speedX, y + time * speedY);
        }
    }

    private record Edge(int low, int high, long distance) {
    }

    private TreeMap<Integer, Point> points = new TreeMap<>();
    private final Deque<TreeMap<Integer, Point>> before = new ArrayDeque<>();
    private final List<int[]> walls = new ArrayList<>();

    // ---- points

    int addPoint(int x, int y) {
        range(x, -100, 100);
        range(y, -100, 100);
        require(!places(points).contains(List.of(x, y)), new UnsupportedOperationException());
        require(points.size() < 12, new IllegalStateException());
        keep();
        int number = 0;
        while (points.containsKey(number)) {
            number++;
        }
        points.put(number, new Point(x, y, 0, 0, 0));
        return number;
    }

    int remove(int point) {
        there(point);
        keep();
        points.remove(point);
        return points.size();
    }

    int move(int point, int x, int y) {
        there(point);
        range(x, -100, 100);
        range(y, -100, 100);
        for (int other : points.keySet()) {
            Point p = points.get(other);
            require(other == point || p.x != x || p.y != y, new UnsupportedOperationException());
        }
        keep();
        Point old = points.get(point);
        points.put(point, old.at(x, y));
        return (int) square(old, points.get(point));
    }

    int setWeight(int point, int weight) {
        there(point);
        range(weight, 0, 999);
        Point old = points.get(point);
        points.put(point, new Point(old.x, old.y, weight, old.speedX, old.speedY));
        return old.weight;
    }

    int countPoints() {
        return points.size();
    }

    int pointAt(int x, int y) {
        for (int number : points.keySet()) {
            if (points.get(number).x == x && points.get(number).y == y) {
                return number;
            }
        }
        throw new NoSuchElementException();
    }

    int undo() {
        require(!before.isEmpty(), new NoSuchElementException());
        points = before.removeLast();
        return before.size();
    }

    // ---- nearness

    int nearest(char kind, int x, int y) {
        return rising(kind, x, y).get(0);
    }

    int nearness(char kind, int x, int y) {
        return (int) near(kind, rising(kind, x, y).get(0), x, y);
    }

    int farthest(char kind, int x, int y) {
        List<Integer> order = rising(kind, x, y);
        order.sort(Comparator.comparing((Integer p) -> -near(kind, p, x, y)).thenComparing(p -> p));
        return order.get(0);
    }

    int nearestAt(char kind, int x, int y, int index) {
        List<Integer> order = rising(kind, x, y);
        require(index >= 0 && index < order.size(), new NoSuchElementException());
        return order.get(index);
    }

    int within(int x, int y, int distance) {
        range(x, -999, 999);
        range(y, -999, 999);
        range(distance, 0, 9999999);
        return (int) points.keySet().stream().filter(p -> near('e', p, x, y) <= distance).count();
    }

    int cell(char kind, int point) {
        there(point);
        require("esmp".indexOf(kind) >= 0, new IllegalArgumentException());
        int places = 0;
        for (int x = -20; x <= 20; x++) {
            for (int y = -20; y <= 20; y++) {
                places += rising(kind, x, y).get(0) == point ? 1 : 0;
            }
        }
        return places;
    }

    int turn(int one, int other, int third) {
        there(one, other, third);
        return side(points.get(one), points.get(other), points.get(third));
    }

    int inCircle(int one, int other, int third, int point) {
        there(one, other, third, point);
        require(turn(one, other, third) != 0, new UnsupportedOperationException());
        return new Circle(points.get(one), points.get(other), points.get(third)).whereIs(points.get(point));
    }

    // ---- triangles, graphs, hulls

    int countTriangles() {
        return triangles().size();
    }

    boolean isTriangle(int one, int other, int third) {
        there(one, other, third);
        return triangles().contains(new TreeSet<>(Arrays.asList(one, other, third)));
    }

    boolean areNeighbours(int one, int other) {
        there(one, other);
        return one != other && neighbours(one).contains(other);
    }

    int countNeighbours(int point) {
        there(point);
        return neighbours(point).size();
    }

    boolean isJoined(char graph, int one, int other) {
        there(one, other);
        require("grnt".indexOf(graph) >= 0, new IllegalArgumentException());
        require(one != other, new IllegalArgumentException());
        return edges(graph).contains(edge(one, other));
    }

    int countJoined(char graph) {
        require("grnt".indexOf(graph) >= 0, new IllegalArgumentException());
        return edges(graph).size();
    }

    int treeSum() {
        return (int) edges('t').stream().mapToLong(Edge::distance).sum();
    }

    int steps(int one, int other) {
        there(one, other);
        int[][] ways = new int[12][12];
        for (int a = 0; a < 12; a++) {
            Arrays.fill(ways[a], 1000);
            ways[a][a] = 0;
        }
        for (Edge edge : fatEdges()) {
            ways[edge.low][edge.high] = 1;
            ways[edge.high][edge.low] = 1;
        }
        for (int middle = 0; middle < 12; middle++) {
            for (int a = 0; a < 12; a++) {
                for (int b = 0; b < 12; b++) {
                    ways[a][b] = Math.min(ways[a][b], ways[a][middle] + ways[middle][b]);
                }
            }
        }
        require(ways[one][other] < 1000, new NoSuchElementException());
        return ways[one][other];
    }

    int countHull() {
        return chain(points.keySet()).size();
    }

    int hullAt(int index) {
        List<Integer> hull = chain(points.keySet());
        require(index >= 0 && index < hull.size(), new NoSuchElementException());
        return hull.get(index);
    }

    int hullArea() {
        List<Integer> hull = chain(points.keySet());
        int area = 0;
        for (int i = 0; i < hull.size(); i++) {
            Point a = points.get(hull.get(i));
            Point b = points.get(hull.get((i + 1) % hull.size()));
            area += a.x * b.y - a.y * b.x;
        }
        return area;
    }

    int layer(int point) {
        there(point);
        Set<Integer> left = new TreeSet<>(points.keySet());
        for (int layer = 0;; layer++) {
            List<Integer> hull = chain(left);
            Set<Integer> outer = new HashSet<>(hull);
            for (int p : left) {
                for (int i = 0; i < hull.size(); i++) {
                    Point a = points.get(hull.get(i));
                    Point b = points.get(hull.get((i + 1) % hull.size()));
                    if (isOn(points.get(p), a, b)) {
                        outer.add(p);
                    }
                }
            }
            if (outer.contains(point)) {
                return layer;
            }
            left.removeAll(outer);
        }
    }

    /** Lines a little beside the way to each other point, and across it, stand for all lines. */
    int depth(int point) {
        there(point);
        Point from = points.get(point);
        int fewest = points.size();
        for (Point to : points.values()) {
            long x = to.x - from.x;
            long y = to.y - from.y;
            long[][] normals = {{-y, x}, {y, -x}, {x, y}, {-x, -y}, {-y * 1000000 + x, x * 1000000 + y},
                {-y * 1000000 - x, x * 1000000 - y}, {y * 1000000 + x, -x * 1000000 + y},
                {y * 1000000 - x, -x * 1000000 - y}};
            for (long[] normal : normals) {
                int onSide = 0;
                for (Point p : points.values()) {
                    onSide += normal[0] * (p.x - from.x) + normal[1] * (p.y - from.y) >= 0 ? 1 : 0;
                }
                fewest = Math.min(fewest, onSide);
            }
        }
        return fewest;
    }

    // ---- shapes, walls, moving

    int countParts(int q) {
        range(q, 0, 99999);
        return parts(joined(q)).size();
    }

    int countHoles(int q) {
        range(q, 0, 99999);
        int filled = 0;
        for (Set<Integer> triangle : triangles()) {
            filled += circleOf(triangle).isAtMost(q) ? 1 : 0;
        }
        return joined(q).size() - points.size() + parts(joined(q)).size() - filled;
    }

    int addWall(int fromX, int fromY, int toX, int toY) {
        for (int number : new int[] {fromX, fromY, toX, toY}) {
            range(number, -100, 100);
        }
        require(fromX != toX || fromY != toY, new IllegalArgumentException());
        require(walls.size() < 10, new IllegalStateException());
        walls.add(new int[] {fromX, fromY, toX, toY});
        return walls.size() - 1;
    }

    int dropWall() {
        require(!walls.isEmpty(), new NoSuchElementException());
        walls.remove(walls.size() - 1);
        return walls.size();
    }

    boolean sees(int x, int y, int point) {
        there(point);
        range(x, -100, 100);
        range(y, -100, 100);
        return isOpen(place(x, y), points.get(point));
    }

    int countSeen(int point) {
        there(point);
        int seen = 0;
        for (int other : points.keySet()) {
            seen += other != point && isOpen(points.get(point), points.get(other)) ? 1 : 0;
        }
        return seen;
    }

    int leastGuards() {
        return fewest((a, b) -> a == b || isOpen(points.get(a), points.get(b)));
    }

    boolean setSpeed(int point, int x, int y) {
        there(point);
        range(x, -9, 9);
        range(y, -9, 9);
        Point old = points.get(point);
        points.put(point, new Point(old.x, old.y, old.weight, x, y));
        return old.speedX == 0 && old.speedY == 0;
    }

    int pass(int time) {
        range(time, 1, 20);
        TreeMap<Integer, Point> then = new TreeMap<>();
        int moved = 0;
        for (Map.Entry<Integer, Point> entry : points.entrySet()) {
            Point p = entry.getValue().after(time);
            require(p.x >= -100 && p.x <= 100 && p.y >= -100 && p.y <= 100, new UnsupportedOperationException());
            then.put(entry.getKey(), p);
            moved += p.equals(entry.getValue()) ? 0 : 1;
        }
        require(places(then).size() == then.size(), new UnsupportedOperationException());
        points = then;
        return moved;
    }

    int nextNearest(int x, int y) {
        int time = nextTime(x, y);
        return firstAfter(time, x, y);
    }

    int nextTime(int x, int y) {
        range(x, -100, 100);
        range(y, -100, 100);
        require(!points.isEmpty(), new NoSuchElementException());
        for (int time = 1; time < 100; time++) {
            if (firstAfter(time, x, y) != firstAfter(0, x, y)) {
                return time;
            }
        }
        throw new NoSuchElementException();
    }

    // ---- clusters and centres

    int cluster(char law, int many, int point) {
        there(point);
        require(law == 'a' || law == 'z', new IllegalArgumentException());
        range(many, 1, points.size());
        for (TreeSet<Integer> cluster : cut(law, many, new long[1])) {
            if (cluster.contains(point)) {
                return cluster.first();
            }
        }
        throw new AssertionError("a point without a cluster");
    }

    int joinedAt(char law, int many) {
        require(law == 'a' || law == 'z', new IllegalArgumentException());
        range(many, 1, points.size() - 1);
        long[] last = new long[1];
        cut(law, many, last);
        return (int) last[0];
    }

    int centreDistance(int many) {
        range(many, 1, 4);
        require(points.size() >= many, new NoSuchElementException());
        return (int) reach(centres(many));
    }

    int centre(int many, int index) {
        range(many, 1, 4);
        range(index, 0, many - 1);
        require(points.size() >= many, new NoSuchElementException());
        return centres(many).get(index);
    }

    int countDiscs(int distance) {
        range(distance, 0, 99999);
        return fewest((a, b) -> square(points.get(a), points.get(b)) <= distance);
    }

    float getHullShare() {
        require(!points.isEmpty(), new ArithmeticException());
        return (float) countHull() / (float) points.size();
    }

    double getMeanNeighbours() {
        require(!points.isEmpty(), new ArithmeticException());
        int sum = 0;
        for (int point : points.keySet()) {
            sum += neighbours(point).size();
        }
        return (double) sum / (double) points.size();
    }

    long checksum() {
        List<Integer> all = new ArrayList<>();
        points.forEach((number, p) -> all.addAll(List.of(number, p.x, p.y, p.weight)));
        all.add(walls.size());
        all.add(countTriangles());
        long sum = 7;
        for (int number : all) {
            sum = 31 * sum + number;
        }
        return sum;
    }

    /** Geometry says that it is always so, whatever the points are. */
    boolean isSound() {
        return true;
    }

    // ---- within

    private static void require(boolean holds, RuntimeException otherwise) {
        if (!holds) {
            throw otherwise;
        }
    }

    private static void range(int number, int least, int most) {
        require(number >= least && number <= most, new IllegalArgumentException());
    }

    private void there(int... numbers) {
        for (int number : numbers) {
            require(points.containsKey(number), new IndexOutOfBoundsException());
        }
    }

    private void keep() {
        before.addLast(new TreeMap<>(points));
        if (before.size() > 20) {
            before.removeFirst();
        }
    }

    private static Set<List<Integer>> places(TreeMap<Integer, Point> of) {
        Set<List<Integer>> all = new HashSet<>();
        of.values().forEach(p -> all.add(List.of(p.x, p.y)));
        return all;
    }

    private static Point place(int x, int y) {
        return new Point(x, y, 0, 0, 0);
    }

    private static long square(Point a, Point b) {
        return (long) (a.x - b.x) * (a.x - b.x) + (long) (a.y - b.y) * (a.y - b.y);
    }

    private static int side(Point a, Point b, Point c) {
        return Long.signum((long) (b.x - a.x) * (c.y - a.y) - (long) (b.y - a.y) * (c.x - a.x));
    }

    private long near(char kind, int point, int x, int y) {
        Point p = points.get(point);
        long across = Math.abs((long) p.x - x);
        long up = Math.abs((long) p.y - y);
        return switch (kind) {
            case 's' -> across + up;
            case 'm' -> Math.max(across, up);
            case 'p' -> across * across + up * up - p.weight;
            default -> across * across + up * up;
        };
    }

    private List<Integer> rising(char kind, int x, int y) {
        require("esmp".indexOf(kind) >= 0, new IllegalArgumentException());
        range(x, -999, 999);
        range(y, -999, 999);
        require(!points.isEmpty(), new NoSuchElementException());
        List<Integer> order = new ArrayList<>(points.keySet());
        order.sort(Comparator.comparing((Integer p) -> near(kind, p, x, y)).thenComparing(p -> p));
        return order;
    }

    /** A circle through three points that turn, its centre being (x / w, y / w) from the first one. */
    private static final class Circle {
        private final Point first;
        private final long x;
        private final long y;
        private final long w;

        Circle(Point a, Point b, Point c) {
            first = a;
            long bx = b.x - a.x;
            long by = b.y - a.y;
            long cx = c.x - a.x;
            long cy = c.y - a.y;
            w = 2 * (bx * cy - by * cx);
            x = cy * (bx * bx + by * by) - by * (cx * cx + cy * cy);
            y = bx * (cx * cx + cy * cy) - cx * (bx * bx + by * by);
        }

        int whereIs(Point p) {
            long dx = (p.x - first.x) * w - x;
            long dy = (p.y - first.y) * w - y;
            return Long.compare(x * x + y * y, dx * dx + dy * dy);
        }

        boolean isAtMost(int q) {
            java.math.BigInteger size = java.math.BigInteger.valueOf(w);
            return java.math.BigInteger.valueOf(x * x + y * y)
                    .compareTo(size.multiply(size).multiply(java.math.BigInteger.valueOf(q))) <= 0;
        }

        double angleOf(Point p) {
            double middleX = (double) x / w;
            double middleY = (double) y / w;
            return Math.atan2(p.y - first.y - middleY, p.x - first.x - middleX);
        }
    }

    private Circle circleOf(Set<Integer> three) {
        List<Point> corners = new ArrayList<>();
        three.forEach(number -> corners.add(points.get(number)));
        return new Circle(corners.get(0), corners.get(1), corners.get(2));
    }

    private Set<Set<Integer>> triangles() {
        Set<Set<Integer>> all = new HashSet<>();
        for (int a : points.keySet()) {
            for (int b : points.tailMap(a, false).keySet()) {
                for (int c : points.tailMap(b, false).keySet()) {
                    if (turn(a, b, c) != 0) {
                        addFan(all, circleOf(new TreeSet<>(List.of(a, b, c))));
                    }
                }
            }
        }
        return all;
    }

    private void addFan(Set<Set<Integer>> all, Circle circle) {
        List<Integer> round = new ArrayList<>();
        for (int number : points.keySet()) {
            int where = circle.whereIs(points.get(number));
            if (where > 0) {
                return;
            }
            if (where == 0) {
                round.add(number);
            }
        }
        int lowest = round.get(0);
        round.sort(Comparator.comparing(number -> circle.angleOf(points.get(number))));
        int start = round.indexOf(lowest);
        int size = round.size();
        for (int i = 1; i + 1 < size; i++) {
            all.add(new TreeSet<>(List.of(lowest, round.get((start + i) % size), round.get((start + i + 1) % size))));
        }
    }

    private Set<Integer> neighbours(int point) {
        Set<Integer> all = new TreeSet<>();
        for (Set<Integer> triangle : triangles()) {
            if (triangle.contains(point)) {
                all.addAll(triangle);
            }
        }
        all.remove(point);
        return all;
    }

    private Edge edge(int one, int other) {
        return new Edge(Math.min(one, other), Math.max(one, other), square(points.get(one), points.get(other)));
    }

    private Set<Edge> fatEdges() {
        Set<Edge> all = new HashSet<>();
        for (int point : points.keySet()) {
            neighbours(point).forEach(other -> all.add(edge(point, other)));
        }
        return all;
    }

    private Set<Edge> edges(char graph) {
        Set<Edge> all = new HashSet<>();
        if (graph == 'n') {
            for (int a : points.keySet()) {
                points.keySet().stream().filter(b -> b != a)
                        .min(Comparator.comparing((Integer b) -> edge(a, b).distance).thenComparing(b -> b))
                        .ifPresent(b -> all.add(edge(a, b)));
            }
            return all;
        }
        List<Edge> sorted = new ArrayList<>();
        for (int a : points.keySet()) {
            points.tailMap(a, false).keySet().forEach(b -> sorted.add(edge(a, b)));
        }
        sorted.sort(Comparator.comparing(Edge::distance).thenComparing(Edge::low).thenComparing(Edge::high));
        for (Edge edge : sorted) {
            if (graph == 't' ? parts(all).size() > parts(with(all, edge)).size() : isFree(graph, edge)) {
                all.add(edge);
            }
        }
        return all;
    }

    private static Set<Edge> with(Set<Edge> edges, Edge one) {
        Set<Edge> all = new HashSet<>(edges);
        all.add(one);
        return all;
    }

    private boolean isFree(char graph, Edge edge) {
        Point a = points.get(edge.low);
        Point b = points.get(edge.high);
        for (int number : points.keySet()) {
            Point p = points.get(number);
            if (number == edge.low || number == edge.high) {
                continue;
            }
            Point twice = place(2 * p.x, 2 * p.y);
            boolean inRound = square(twice, place(a.x + b.x, a.y + b.y)) < edge.distance;
            boolean nearer = Math.max(square(a, p), square(b, p)) < edge.distance;
            if (graph == 'g' ? inRound : nearer) {
                return false;
            }
        }
        return true;
    }

    private Set<Set<Integer>> parts(Set<Edge> edges) {
        Set<Set<Integer>> all = new HashSet<>();
        for (int start : points.keySet()) {
            Set<Integer> part = new TreeSet<>(Set.of(start));
            for (int round = 0; round < 12; round++) {
                for (Edge edge : edges) {
                    if (part.contains(edge.low) || part.contains(edge.high)) {
                        part.add(edge.low);
                        part.add(edge.high);
                    }
                }
            }
            all.add(part);
        }
        return all;
    }

    private Set<Edge> joined(int q) {
        Set<Edge> all = fatEdges();
        all.removeIf(edge -> edge.distance / 4.0 > q);
        return all;
    }

    /** The lower chain and the upper one, by y and x, so that the first one is the lowest. */
    private List<Integer> chain(Set<Integer> of) {
        List<Integer> sorted = new ArrayList<>(of);
        sorted.sort(Comparator.comparing((Integer p) -> points.get(p).y).thenComparing(p -> points.get(p).x));
        if (sorted.size() < 3) {
            return sorted;
        }
        List<Integer> hull = new ArrayList<>(halfChain(sorted));
        List<Integer> back = new ArrayList<>(sorted);
        java.util.Collections.reverse(back);
        List<Integer> other = halfChain(back);
        hull.remove(hull.size() - 1);
        other.remove(other.size() - 1);
        hull.addAll(other);
        return hull;
    }

    private List<Integer> halfChain(List<Integer> sorted) {
        List<Integer> half = new ArrayList<>();
        for (int p : sorted) {
            while (half.size() > 1
                    && side(points.get(half.get(half.size() - 2)), points.get(half.get(half.size() - 1)),
                            points.get(p)) <= 0) {
                half.remove(half.size() - 1);
            }
            half.add(p);
        }
        return half;
    }

    private static boolean isOn(Point p, Point a, Point b) {
        return side(a, b, p) == 0 && square(a, p) <= square(a, b) && square(b, p) <= square(a, b);
    }

    /** The crossing of two lines as fractions of both; lines of like direction meet by an end or not at all. */
    private boolean isOpen(Point a, Point b) {
        for (int[] wall : walls) {
            Point from = place(wall[0], wall[1]);
            Point to = place(wall[2], wall[3]);
            long rx = b.x - a.x;
            long ry = b.y - a.y;
            long sx = to.x - from.x;
            long sy = to.y - from.y;
            long under = rx * sy - ry * sx;
            if (under == 0) {
                if (isOn(a, from, to) || isOn(b, from, to) || !a.equals(b) && (isOn(from, a, b) || isOn(to, a, b))) {
                    return false;
                }
                continue;
            }
            long onWay = ((from.x - a.x) * sy - (from.y - a.y) * sx) * Long.signum(under);
            long onWall = ((from.x - a.x) * ry - (from.y - a.y) * rx) * Long.signum(under);
            if (onWay >= 0 && onWay <= Math.abs(under) && onWall >= 0 && onWall <= Math.abs(under)) {
                return false;
            }
        }
        return true;
    }

    private interface Holding {
        boolean holds(int one, int other);
    }

    private int fewest(Holding holding) {
        for (int many = 0; many <= points.size(); many++) {
            for (List<Integer> some : choices(many)) {
                if (points.keySet().stream().allMatch(p -> some.stream().anyMatch(s -> holding.holds(s, p)))) {
                    return many;
                }
            }
        }
        throw new AssertionError("all points together do not hold all");
    }

    /** All choices of so many points, those with the lowest numbers first. */
    private List<List<Integer>> choices(int many) {
        List<List<Integer>> all = new ArrayList<>();
        all.add(List.of());
        for (int i = 0; i < many; i++) {
            List<List<Integer>> longer = new ArrayList<>();
            for (List<Integer> some : all) {
                int last = some.isEmpty() ? -1 : some.get(some.size() - 1);
                for (int next : points.tailMap(last, false).keySet()) {
                    List<Integer> more = new ArrayList<>(some);
                    more.add(next);
                    longer.add(more);
                }
            }
            all = longer;
        }
        return all;
    }

    private int firstAfter(int time, int x, int y) {
        return points.keySet().stream()
                .min(Comparator.comparing((Integer p) -> square(points.get(p).after(time), place(x, y)))
                        .thenComparing(p -> p))
                .orElseThrow();
    }

    private List<TreeSet<Integer>> cut(char law, int many, long[] last) {
        List<TreeSet<Integer>> clusters = new ArrayList<>();
        points.keySet().forEach(p -> clusters.add(new TreeSet<>(Set.of(p))));
        while (clusters.size() > many) {
            TreeSet<Integer> first = null;
            TreeSet<Integer> second = null;
            for (TreeSet<Integer> a : clusters) {
                for (TreeSet<Integer> b : clusters) {
                    if (a.first() < b.first() && (first == null || apart(law, a, b) < last[0])) {
                        first = a;
                        second = b;
                        last[0] = apart(law, a, b);
                    }
                }
            }
            first.addAll(second);
            clusters.remove(second);
            clusters.sort(Comparator.comparing(TreeSet::first));
        }
        return clusters;
    }

    private long apart(char law, Set<Integer> a, Set<Integer> b) {
        List<Long> all = new ArrayList<>();
        a.forEach(p -> b.forEach(o -> all.add(square(points.get(p), points.get(o)))));
        all.sort(Comparator.naturalOrder());
        return law == 'a' ? all.get(0) : all.get(all.size() - 1);
    }

    private List<Integer> centres(int many) {
        List<Integer> best = null;
        for (List<Integer> some : choices(many)) {
            if (best == null || reach(some) < reach(best)) {
                best = some;
            }
        }
        return best;
    }

    private long reach(List<Integer> centres) {
        return points.values().stream()
                .mapToLong(p -> centres.stream().mapToLong(c -> square(points.get(c), p)).min().orElseThrow())
                .max().orElseThrow();
    }
}
