import java.io.IOException;
import java.lang.reflect.Constructor;
import java.lang.reflect.Field;
import java.lang.reflect.Member;
import java.lang.reflect.Method;
import java.lang.reflect.Modifier;
import java.nio.file.Files;
import java.nio.file.Path;
import java.util.HashSet;
import java.util.Set;
import java.util.TreeSet;
import java.util.regex.Matcher;
import java.util.regex.Pattern;

/** The face is that of the document, and the source keeps to the rules of the language that a reader of lines can see. */
public final class FaceTest {
    private static final Path DOCUMENT = Path.of("../shared/DOC.md");
    private static final int MOST_CLASSES = 12;
    private static final int MOST_LINES = 60;
    private static final int MOST_PARAMETERS = 7;
    private static int wrong;

    public static void main(String[] args) throws IOException {
        Set<String> due = documentFace();
        Set<String> got = classFace();
        expect(due.size() == 49, "the document has 49 calls and constructors, not " + due.size());
        for (String member : due) {
            expect(got.contains(member), "the class lacks " + member);
        }
        for (String member : got) {
            expect(due.contains(member), "the class shows " + member);
        }
        namesArePrivate(Nearestward.class);
        sourceKeepsToTheRules(withoutTexts(Files.readString(Path.of(args[0]))));
        System.out.println("FaceTest: " + due.size() + " members, " + wrong + " wrong");
        if (wrong != 0) {
            System.exit(1);
        }
    }

    private static void expect(boolean holds, String otherwise) {
        if (!holds) {
            wrong++;
            System.out.println(otherwise);
        }
    }

    /** Each member of the face as its types, without the names of what it is given. */
    private static Set<String> documentFace() throws IOException {
        Set<String> face = new TreeSet<>();
        boolean inside = false;
        for (String line : Files.readAllLines(DOCUMENT)) {
            if (line.startsWith("public final class Nearestward")) {
                inside = true;
            } else if (line.equals("}")) {
                inside = false;
            } else if (inside) {
                face.add(line.strip().replace(";", "").replaceAll("(int|char) \\w+(?=[,)])", "$1").replace(", ", ","));
            }
        }
        return face;
    }

    private static Set<String> classFace() {
        Set<String> face = new TreeSet<>();
        for (Constructor<?> made : Nearestward.class.getConstructors()) {
            face.add(made.toString());
        }
        for (Method method : Nearestward.class.getDeclaredMethods()) {
            if (!Modifier.isPrivate(method.getModifiers()) && !method.isSynthetic()) {
                face.add(method.toString().replace("Nearestward.", "").replace("java.lang.", "").replace("java.util.", ""));
            }
        }
        for (Field field : Nearestward.class.getDeclaredFields()) {
            if (!Modifier.isPrivate(field.getModifiers())) {
                face.add(field.toString());
            }
        }
        expect(Modifier.isFinal(Nearestward.class.getModifiers()), "the class is not final");
        return face;
    }

    private static void namesArePrivate(Class<?> type) {
        Set<String> shown = new HashSet<>();
        for (Method method : type.getDeclaredMethods()) {
            if (Modifier.isPublic(method.getModifiers())) {
                shown.add(method.getName());
            }
        }
        for (Method method : type.getDeclaredMethods()) {
            expect(Modifier.isPublic(method.getModifiers()) || !shown.contains(method.getName()), "private " + method);
            expect(method.getParameterCount() <= MOST_PARAMETERS, "many parameters: " + method);
        }
        expect(type.getDeclaredClasses().length < MOST_CLASSES, "many classes");
        for (Class<?> inside : type.getDeclaredClasses()) {
            expect(!Modifier.isPublic(inside.getModifiers()) && !Modifier.isProtected(inside.getModifiers())
                    && Modifier.isStatic(inside.getModifiers()), "a class inside is shown: " + inside);
            for (Method method : inside.getDeclaredMethods()) {
                expect(!shown.contains(method.getName()), "a method inside bears a public name: " + method);
                expect(method.getParameterCount() <= MOST_PARAMETERS, "many parameters: " + method);
            }
            for (Member member : inside.getDeclaredFields()) {
                boolean number = Modifier.isFinal(member.getModifiers());
                expect(!Modifier.isStatic(member.getModifiers()) || number, "a static field changes: " + member);
            }
        }
    }

    private static String withoutTexts(String source) {
        return source.replaceAll("(?s)/\\*.*?\\*/", "").replaceAll("//[^\n]*", "")
                .replaceAll("\"(\\\\.|[^\"\\\\])*\"", "\"\"").replaceAll("'(\\\\.|[^'\\\\])'", "' '");
    }

    private static void sourceKeepsToTheRules(String source) {
        String[] forbidden = {"->", "::", "\\bsynchronized\\b", "\\bassert\\b", "\\bfinally\\b", "\\bcatch\\b", "Exact\\b",
            "\\bSystem\\b", "\\bpackage\\b", "\\bprotected\\b", "\\bfloat\\s+\\w+\\s*=", "\\bdouble\\s+\\w+\\s*=", "\\bwhile\\b",
            "\\bdo\\b", "\\bstatic\\s*\\{", "\\bMath\\.(?!abs\\(|min\\(|max\\()", "\\bthis\\b", "\\binstanceof\\b"};
        for (String pattern : forbidden) {
            expect(!Pattern.compile(pattern).matcher(source).find(), "the source has " + pattern);
        }
        Matcher imports = Pattern.compile("(?m)^import (.*);").matcher(source);
        while (imports.find()) {
            expect(imports.group(1).equals("java.util.NoSuchElementException"), "the source imports " + imports.group(1));
        }
        String afterFields = source.substring(source.indexOf("public int addPoint"));
        for (String line : afterFields.split("\n")) {
            boolean makes = line.contains("new ") && !line.contains("throw new ");
            expect(!makes || line.strip().startsWith("private final ") || line.strip().startsWith("final "),
                    "a call makes something: " + line.strip());
        }
        methodsAreShort(source);
    }

    private static void methodsAreShort(String source) {
        int from = 0;
        String[] lines = source.split("\n");
        for (int i = 0; i < lines.length; i++) {
            if (lines[i].matches(" {4}( {4})?[\\w ]+[\\w\\[\\]]+ \\w+\\(.*")) {
                from = i;
            }
            expect(!lines[i].matches(" {4}( {4})?}") || i - from <= MOST_LINES || lines[from].contains("class"),
                    "a long method: " + lines[from]);
            if (lines[i].contains(" class ")) {
                from = i;
            }
        }
    }
}
