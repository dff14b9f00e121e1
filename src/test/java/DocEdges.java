import java.io.IOException;
import java.nio.file.Files;
import java.nio.file.Path;
import java.util.ArrayList;
import java.util.List;
import java.util.function.Predicate;
import java.util.regex.Matcher;
import java.util.regex.Pattern;

/**
 * Reads the promises of the document, and looks whether the tests of each one have made the calls that its own lines
 * name: both ends of each range and the numbers beside them, each sign, points that are not there, each exception.
 */
final class DocEdges {
    private static final Path DOCUMENT = Path.of("../shared/DOC.md");
    private static final Pattern HEADING = Pattern.compile("## Promise (\\d+): (\\w+|A new object)");
    private static final Pattern ARGUMENT = Pattern.compile("- `(\\w+)`: (.*)");
    private static final Pattern THROWN = Pattern.compile("Throws `(\\w+)` if .*");
    private static final Pattern RANGE = Pattern.compile("(-?\\d+) to (-?\\d+)");
    private static final Pattern SIGN = Pattern.compile("'(.)'");
    private static final Pattern POINT = Pattern.compile("the point|a point|another one|a third one|the one that is asked for"
            + "|another one, or the same");
    private static final String OUT_OF_RANGE = "throws.IllegalArgumentException";
    private static final String NO_SUCH_POINT = "throws.IndexOutOfBoundsException";
    private static final int MOST_POINTS = 12;

    private final Runs runs;
    private List<Runs.Made> made = List.of();
    private String promise = "";
    private int argument;
    private int looked;

    private DocEdges(Runs runs) {
        this.runs = runs;
    }

    static void lookThrough(Runs runs) throws IOException {
        DocEdges edges = new DocEdges(runs);
        runs.name("the document");
        for (String line : Files.readAllLines(DOCUMENT)) {
            edges.read(line);
        }
        runs.expect(edges.looked == 49, "the document has 49 promises, not " + edges.looked);
    }

    private void read(String line) {
        Matcher heading = HEADING.matcher(line);
        Matcher told = ARGUMENT.matcher(line);
        Matcher thrown = THROWN.matcher(line);
        if (line.startsWith("## ")) {
            made = List.of();
            promise = "";
        }
        if (heading.matches()) {
            begin(Integer.parseInt(heading.group(1)), heading.group(2));
        } else if (!promise.isEmpty() && told.matches()) {
            lookAtArgument(told.group(1), told.group(2));
            argument++;
        } else if (!promise.isEmpty() && thrown.matches()) {
            String answer = "throws." + thrown.group(1);
            need("that throws " + thrown.group(1), row -> row.answer().equals(answer));
        }
    }

    private void begin(int number, String call) {
        promise = String.format("promise%02d_", number);
        made = new ArrayList<>();
        for (Runs.Made row : runs.made) {
            if (row.test().startsWith(promise) && (row.call().equals(call) || number == 1)) {
                made.add(row);
            }
        }
        argument = 0;
        looked++;
        need("that answers", row -> !row.answer().startsWith("throws."));
    }

    private void lookAtArgument(String name, String told) {
        int at = argument;
        Matcher range = RANGE.matcher(told);
        if (range.matches()) {
            int least = Integer.parseInt(range.group(1));
            int most = Integer.parseInt(range.group(2));
            need(name + " with " + least, row -> row.values().get(at).equals(least) && !row.answer().equals(OUT_OF_RANGE));
            need(name + " with " + most, row -> row.values().get(at).equals(most) && !row.answer().equals(OUT_OF_RANGE));
            need(name + " below " + least, row -> row.values().get(at).equals(least - 1) && row.answer().equals(OUT_OF_RANGE));
            need(name + " above " + most, row -> row.values().get(at).equals(most + 1) && row.answer().equals(OUT_OF_RANGE));
        } else if (told.startsWith("'")) {
            lookAtSigns(name, told);
        } else if (POINT.matcher(told).matches()) {
            need(name + " with the point -1", row -> isRefusedFor(row, at, -1));
            need(name + " with the point 12", row -> isRefusedFor(row, at, MOST_POINTS));
            need(name + " with a point that is free", row -> {
                int point = (Integer) row.values().get(at);
                return point >= 0 && point < MOST_POINTS && isRefusedFor(row, at, point);
            });
        }
    }

    private void lookAtSigns(String name, String told) {
        int at = argument;
        List<Object> signs = new ArrayList<>();
        Matcher sign = SIGN.matcher(told);
        while (sign.find()) {
            char kind = sign.group(1).charAt(0);
            signs.add(kind);
            need(name + " with " + kind, row -> row.values().get(at).equals(kind) && !row.answer().startsWith("throws."));
        }
        need(name + " with another sign", row -> !signs.contains(row.values().get(at)) && row.answer().equals(OUT_OF_RANGE));
    }

    /** A point is refused, and every other argument is one that could be a point. */
    private static boolean isRefusedFor(Runs.Made row, int at, int point) {
        if (!row.values().get(at).equals(point) || !row.answer().equals(NO_SUCH_POINT)) {
            return false;
        }
        for (int other = 0; other < row.values().size(); other++) {
            Object value = row.values().get(other);
            if (other != at && value instanceof Integer number && (number < 0 || number >= MOST_POINTS)) {
                return false;
            }
        }
        return true;
    }

    private void need(String what, Predicate<Runs.Made> fits) {
        runs.expect(made.stream().anyMatch(fits), "no test " + promise + " has a call " + what);
    }
}
