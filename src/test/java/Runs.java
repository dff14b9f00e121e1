import java.lang.reflect.InvocationTargetException;
import java.lang.reflect.Method;
import java.lang.reflect.Modifier;
import java.util.ArrayList;
import java.util.Arrays;
import java.util.Comparator;
import java.util.HashMap;
import java.util.List;
import java.util.Map;

/**
 * Runs of calls as the document and the issues write them, each run on a new object:
 * "addPoint(0, 0) = 0; nearest('e', 4, 0) = 0; remove(5) = throws.IndexOutOfBoundsException".
 * A call without "=" is made for what it changes alone, and must not throw.
 */
final class Runs {
    /** A call that was made, by the test that made it. */
    record Made(String test, String call, List<Object> values, String answer) {
    }

    private static final Map<String, Method> METHODS = methodsByName();
    private static final int MOST_UNDO = 20;
    private static final int[][] PLACES = {{0, 0}, {7, 3}, {-100, 100}, {50, 50}, {-20, -60}};
    final List<Made> made = new ArrayList<>();
    private String test = "";
    private int tests;
    private int wrong;

    private static Map<String, Method> methodsByName() {
        Map<String, Method> found = new HashMap<>();
        for (Method method : Nearestward.class.getDeclaredMethods()) {
            if (Modifier.isPublic(method.getModifiers())) {
                found.put(method.getName(), method);
            }
        }
        return found;
    }

    /** Runs each test of a class, that is each method with Runs for its argument whose name begins so. */
    void runAll(Class<?> type, String beginning) {
        Method[] methods = type.getDeclaredMethods();
        Arrays.sort(methods, Comparator.comparing(Method::getName));
        for (Method method : methods) {
            if (method.getParameterCount() == 1 && method.getParameterTypes()[0] == Runs.class
                    && !Modifier.isPrivate(method.getModifiers()) && method.getName().startsWith(beginning)) {
                test = method.getName();
                int madeBefore = made.size();
                invoke(null, method, new Object[] {this});
                expect(made.size() > madeBefore, "it makes no call");
                tests++;
            }
        }
    }

    /** One run on a new object, by the test that runs now. */
    void run(String text) {
        Nearestward object = new Nearestward();
        List<String> taken = new ArrayList<>();
        boolean refused = false;
        for (String part : text.split(";")) {
            String row = part.strip();
            if (!row.isEmpty()) {
                if (makeRow(object, row).startsWith("throws.")) {
                    refused = true;
                } else {
                    taken.add(row);
                }
            }
        }
        if (refused) {
            compareWithTwin(object, taken);
        }
    }

    /** One run on a new object, with a name of its own. */
    void run(String title, String text) {
        name(title);
        tests++;
        run(text);
    }

    /** What wrong answers are told under from now on. */
    void name(String title) {
        test = title;
    }

    /** For tests that can't be told by calls alone. */
    void expect(boolean holds, String otherwise) {
        if (!holds) {
            wrong++;
            System.out.println(test + ": " + otherwise);
        }
    }

    private String makeRow(Nearestward object, String row) {
        int equals = row.indexOf('=');
        String call = callOf(row);
        String answer = answerOf(object, call);
        made.add(new Made(test, nameOf(call), List.of(valuesOf(call)), answer));
        boolean fits = equals < 0 ? !answer.startsWith("throws.") : answer.equals(row.substring(equals + 1).strip());
        expect(fits, row + ", but it answered " + answer);
        return answer;
    }

    private static String callOf(String row) {
        int equals = row.indexOf('=');
        return (equals < 0 ? row : row.substring(0, equals)).strip();
    }

    private static String nameOf(String call) {
        return call.substring(0, call.indexOf('('));
    }

    /** A call that throws changes nothing: without the refused ones all is as it is with them. */
    private void compareWithTwin(Nearestward object, List<String> taken) {
        Nearestward twin = new Nearestward();
        for (String row : taken) {
            answerOf(twin, callOf(row));
        }
        expect(allOf(object).equals(allOf(twin)), "a refused call changed something");
    }

    /** All that the later calls of an object tell of what it holds; it is spent then. */
    private static String allOf(Nearestward object) {
        StringBuilder told = new StringBuilder();
        tellPlaces(object, told);
        for (String answer = ""; !answer.startsWith("throws."); ) {
            answer = answerOf(object, "dropWall()");
            told.append(answer).append(' ');
            tellSight(object, told);
        }
        for (int back = 0; back <= MOST_UNDO; back++) {
            told.append(answerOf(object, "undo()")).append(' ');
            tellPlaces(object, told);
        }
        for (int point = 0; point < 12; point++) {
            told.append(answerOf(object, "setSpeed(" + point + ", 0, 0)")).append(' ');
        }
        return told.toString();
    }

    private static void tellPlaces(Nearestward object, StringBuilder told) {
        told.append(object.checksum()).append(' ');
        for (int[] place : PLACES) {
            told.append(answerOf(object, "nextTime(" + place[0] + ", " + place[1] + ")")).append(' ');
        }
    }

    private static void tellSight(Nearestward object, StringBuilder told) {
        for (int point = 0; point < 12; point++) {
            told.append(answerOf(object, "countSeen(" + point + ")")).append(' ');
        }
    }

    /** What a call answers, an exception as throws. and its simple name. */
    static String answerOf(Nearestward object, String call) {
        Method method = METHODS.get(nameOf(call));
        if (method == null) {
            throw new AssertionError("there is no call " + call);
        }
        return answerOf(object, method, valuesOf(call));
    }

    static String answerOf(Object object, Method method, Object[] values) {
        try {
            return String.valueOf(method.invoke(object, values));
        } catch (InvocationTargetException thrown) {
            return "throws." + thrown.getCause().getClass().getSimpleName();
        } catch (IllegalAccessException | IllegalArgumentException thrown) {
            throw new AssertionError("the call " + method.getName() + " can't be made so", thrown);
        }
    }

    private static void invoke(Object object, Method method, Object[] values) {
        try {
            method.invoke(object, values);
        } catch (InvocationTargetException | IllegalAccessException thrown) {
            throw new AssertionError(method.getName() + " can't be run", thrown);
        }
    }

    private static Object[] valuesOf(String call) {
        String inside = call.substring(call.indexOf('(') + 1, call.lastIndexOf(')')).strip();
        String[] words = inside.isEmpty() ? new String[0] : inside.split(",");
        Object[] values = new Object[words.length];
        for (int i = 0; i < words.length; i++) {
            values[i] = valueOf(words[i].strip());
        }
        return values;
    }

    private static Object valueOf(String word) {
        if (word.startsWith("'")) {
            return word.charAt(1);
        }
        return Integer.valueOf(word);
    }

    /** Tells how the runs went and ends the program with 1 if a row was wrong. */
    void finish(String name) {
        System.out.println(name + ": " + tests + " tests, " + made.size() + " calls, " + wrong + " wrong");
        if (wrong != 0 || made.isEmpty()) {
            System.exit(1);
        }
    }
}
