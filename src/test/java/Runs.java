import java.lang.reflect.InvocationTargetException;
import java.lang.reflect.Method;
import java.util.HashMap;
import java.util.Map;

/**
 * Runs of calls as the document and the issues write them, each run on a new object:
 * "addPoint(0, 0) = 0; nearest('e', 4, 0) = 0; remove(5) = throws.IndexOutOfBoundsException".
 * A call without "=" is made for what it changes alone, and must not throw.
 */
final class Runs {
    private static final Map<String, Method> METHODS = methodsByName();
    private int calls;
    private int wrong;

    private static Map<String, Method> methodsByName() {
        Map<String, Method> found = new HashMap<>();
        for (Method method : Nearestward.class.getDeclaredMethods()) {
            if (java.lang.reflect.Modifier.isPublic(method.getModifiers())) {
                found.put(method.getName(), method);
            }
        }
        return found;
    }

    /** One run on a new object. */
    void run(String title, String text) {
        Nearestward object = new Nearestward();
        for (String part : text.split(";")) {
            String row = part.strip();
            if (!row.isEmpty()) {
                makeRow(title, object, row);
            }
        }
    }

    private void makeRow(String title, Nearestward object, String row) {
        int equals = row.indexOf('=');
        String call = (equals < 0 ? row : row.substring(0, equals)).strip();
        String answer = answerOf(object, call);
        calls++;
        boolean fits = equals < 0 ? !answer.startsWith("throws.") : answer.equals(row.substring(equals + 1).strip());
        if (!fits) {
            wrong++;
            System.out.println(title + ": " + row + ", but it answered " + answer);
        }
    }

    /** What a call answers, an exception as throws. and its simple name. */
    static String answerOf(Nearestward object, String call) {
        int open = call.indexOf('(');
        Method method = METHODS.get(call.substring(0, open));
        if (method == null) {
            throw new AssertionError("there is no call " + call);
        }
        String inside = call.substring(open + 1, call.lastIndexOf(')')).strip();
        String[] words = inside.isEmpty() ? new String[0] : inside.split(",");
        Object[] values = new Object[words.length];
        for (int i = 0; i < words.length; i++) {
            values[i] = valueOf(words[i].strip());
        }
        return answerOf(object, method, values);
    }

    static String answerOf(Object object, Method method, Object[] values) {
        try {
            return String.valueOf(method.invoke(object, values));
        } catch (InvocationTargetException thrown) {
            return "throws." + thrown.getCause().getClass().getSimpleName();
        } catch (IllegalAccessException | IllegalArgumentException thrown) {
            throw new AssertionError("the call " + method.getName() + " can't be made so", thrown);
        }
    }

    private static Object valueOf(String word) {
        if (word.startsWith("'")) {
            return word.charAt(1);
        }
        return Integer.valueOf(word);
    }

    /** Tells how the runs went and ends the program with 1 if a row was wrong. */
    void finish(String name) {
        System.out.println(name + ": " + calls + " calls, " + wrong + " wrong");
        if (wrong != 0 || calls == 0) {
            System.exit(1);
        }
    }
}
