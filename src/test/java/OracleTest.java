import java.lang.reflect.Method;
import java.lang.reflect.Modifier;
import java.util.ArrayList;
import java.util.Arrays;
import java.util.HashMap;
import java.util.List;
import java.util.Map;
import java.util.Random;
import java.util.TreeMap;

/** Random runs, the same ones each time, on the class and on the oracle beside it: all answers must be alike. */
public final class OracleTest {
    private static final int RUNS = 90;
    private static final int CALLS = 512;
    private static final int MOST_TOLD = 20;
    private static final String CHANGING = "addPoint addPoint addPoint addPoint addPoint move remove setWeight undo "
            + "addWall addWall dropWall setSpeed setSpeed pass";

    private final Map<String, Method> ours = methodsOf(Nearestward.class, Modifier.PUBLIC);
    private final Map<String, Method> theirs = methodsOf(Oracle.class, 0);
    private final List<String> names = new ArrayList<>(new TreeMap<>(ours).keySet());
    private final Map<String, Integer> answered = new TreeMap<>();
    private Random random;
    /** How far the places of a run spread: narrow ones make ties, lines and common circles. */
    private int spread;
    /** Places on one circle and in its middle, on two lines, or none: then points come anywhere. */
    private int[][] pool;
    private int wrong;

    private static Map<String, Method> methodsOf(Class<?> type, int modifier) {
        Map<String, Method> found = new HashMap<>();
        for (Method method : type.getDeclaredMethods()) {
            if ((method.getModifiers() & modifier) == modifier && !Modifier.isPrivate(method.getModifiers())) {
                method.setAccessible(true);
                found.put(method.getName(), method);
            }
        }
        return found;
    }

    public static void main(String[] args) {
        OracleTest test = new OracleTest();
        int[] spreads = {1, 2, 3, 5, 8, 20, 60, 100};
        int[][][] pools = {null, null, circle(25), null, circle(325), lines()};
        int first = args.length > 1 ? Integer.parseInt(args[1]) : 0;
        int runs = args.length > 2 ? Integer.parseInt(args[2]) : RUNS;
        for (int run = first; run < first + runs && test.wrong == 0; run++) {
            test.random = new Random(1000 + run);
            test.spread = spreads[run % spreads.length];
            test.pool = pools[run % pools.length];
            test.run(run);
        }
        if (runs >= RUNS) {
            test.tellWhatNeverAnswered();
        }
        System.out.println("OracleTest: " + runs + " runs, " + test.wrong + " wrong");
        if (test.wrong != 0) {
            System.exit(1);
        }
    }

    private static int[][] circle(int square) {
        List<int[]> places = new ArrayList<>();
        for (int x = -100; x <= 100; x++) {
            for (int y = -100; y <= 100; y++) {
                if (x * x + y * y == square || x * x + y * y <= 1) {
                    places.add(new int[] {x, y});
                }
            }
        }
        return places.toArray(new int[0][]);
    }

    private static int[][] lines() {
        List<int[]> places = new ArrayList<>();
        for (int step = -7; step <= 7; step++) {
            places.add(new int[] {2 * step, step});
            places.add(new int[] {2 * step + 1, step - 3});
        }
        return places.toArray(new int[0][]);
    }

    private void run(int run) {
        Nearestward object = new Nearestward();
        Oracle oracle = new Oracle();
        String[] changing = CHANGING.split(" ");
        for (int call = 0; call < CALLS && wrong < MOST_TOLD; call++) {
            boolean changes = random.nextInt(5) < 2;
            String name = changes ? changing[random.nextInt(changing.length)] : names.get(random.nextInt(names.size()));
            compare(run, object, oracle, name, argumentsOf(name));
        }
    }

    private void compare(int run, Nearestward object, Oracle oracle, String name, Object[] values) {
        String got = Runs.answerOf(object, ours.get(name), values);
        String due = Runs.answerOf(oracle, theirs.get(name), values);
        if (!got.equals(due)) {
            wrong++;
            System.out.println("run " + run + ": " + name + Arrays.toString(values) + " answered " + got + ", due is " + due);
        }
        String key = name + (due.startsWith("throws.") ? " " + due : "");
        answered.merge(key, 1, Integer::sum);
    }

    private void tellWhatNeverAnswered() {
        for (String name : names) {
            if (!answered.containsKey(name)) {
                wrong++;
                System.out.println("no run had an answer of " + name);
            }
            for (Class<?> thrown : ours.get(name).getExceptionTypes()) {
                if (!answered.containsKey(name + " throws." + thrown.getSimpleName())) {
                    wrong++;
                    System.out.println("no run had " + name + " throw " + thrown.getSimpleName());
                }
            }
        }
    }

    private Object[] argumentsOf(String name) {
        Class<?>[] types = ours.get(name).getParameterTypes();
        Object[] values = new Object[types.length];
        for (int i = 0; i < types.length; i++) {
            values[i] = types[i] == char.class ? kindFor(name) : number(name, i, types.length);
        }
        if (pool != null && (name.equals("addPoint") || name.equals("move")) && random.nextInt(20) != 0) {
            int[] place = pool[random.nextInt(pool.length)];
            values[types.length - 2] = place[0];
            values[types.length - 1] = place[1];
        }
        return values;
    }

    private char kindFor(String name) {
        if (random.nextInt(25) == 0) {
            return (char) random.nextInt(256);
        }
        String kinds = switch (name) {
            case "isJoined", "countJoined" -> "grnt";
            case "cluster", "joinedAt" -> "az";
            default -> "esmp";
        };
        return kinds.charAt(random.nextInt(kinds.length()));
    }

    private Object number(String name, int index, int many) {
        if (random.nextInt(60) == 0) {
            int[] odd = {-1, 12, 13, 31, 32, 100, 101, -100, -101, 999, 1000, -999, -1000, 99999, 100000, 9999999,
                10000000, Integer.MAX_VALUE, Integer.MIN_VALUE, Integer.MIN_VALUE + 1};
            return odd[random.nextInt(odd.length)];
        }
        return switch (name) {
            case "addPoint", "pointAt", "nextNearest", "nextTime", "addWall" -> place();
            case "nearest", "nearness", "farthest" -> place();
            case "move", "sees" -> name.equals("sees") ? (index < 2 ? place() : point()) : (index > 0 ? place() : point());
            case "nearestAt" -> index < 3 ? place() : point();
            case "within", "countDiscs" -> index < many - 1 ? place() : distance();
            case "countParts", "countHoles" -> distance() / 4;
            case "setWeight" -> index == 0 ? point() : random.nextInt(random.nextBoolean() ? 10 : 1000);
            case "setSpeed" -> index == 0 ? point() : random.nextInt(5) - 2 + (random.nextInt(9) - 4) * random.nextInt(3);
            case "pass" -> random.nextInt(5) == 0 ? 1 + random.nextInt(20) : 1 + random.nextInt(3);
            case "cluster" -> index == 1 ? 1 + random.nextInt(9) : point();
            case "joinedAt" -> 1 + random.nextInt(8);
            case "centreDistance" -> 1 + random.nextInt(4);
            case "centre" -> index == 0 ? 1 + random.nextInt(4) : random.nextInt(4);
            default -> point();
        };
    }

    private int place() {
        return random.nextInt(2 * spread + 1) - spread;
    }

    private int point() {
        return random.nextInt(random.nextInt(4) == 0 ? 13 : 7);
    }

    private int distance() {
        return random.nextInt(4 * spread * spread + 1);
    }
}
