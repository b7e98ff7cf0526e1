import java.io.IOException;
import java.lang.reflect.Method;
import java.lang.reflect.Modifier;
import java.nio.file.Files;
import java.nio.file.Path;
import java.util.ArrayList;
import java.util.List;
import java.util.TreeSet;
import java.util.regex.Matcher;
import java.util.regex.Pattern;

/**
 * What of LANGUAGE.md can be seen from the text of the class and from its members; run from the project's folder.
 * It bars some things that the rules allow, as the class does without them (null, while, texts, catch).
 */
public final class LanguageTest {
    private static final Path SOURCE = Path.of("src/main/java/ClinkerWorks.java");
    private static final String[] BARRED = {"->", "::", "\\bimport\\b", "\\bpackage\\b", "\\bcatch\\b", "\\bfinally\\b",
        "\\bsynchronized\\b", "\\bassert\\b", "\\bSystem\\.(?!arraycopy)", "\\bMath\\.\\w+Exact\\b", "\\bString\\b",
        "\\b(Integer|Long|Short|Byte|Character|Boolean|Double|Float)\\b", "\\bMath\\.(?!(min|max|abs|floorDiv)\\()",
        "\\bObject\\b", "\\bprotected\\b", "\\bnull\\b", "\\bwhile\\b", "\\b(var|volatile|transient|native)\\b"};
    private static final int MOST_LINES = 60;

    private static final Checks checks = new Checks("LanguageTest");

    public static void main(String[] args) throws IOException {
        List<String> lines = Files.readAllLines(SOURCE);
        nothingBarred(lines);
        exceptionsAreThrownByAText(lines);
        methodsAreShort(lines);
        objectsAreMadeInConstructorsAlone(lines);
        membersArePrivate();
        checks.finish();
    }

    private static void nothingBarred(List<String> lines) {
        for (String barred : BARRED) {
            Pattern pattern = Pattern.compile(barred);
            for (String line : lines) {
                checks.no(barred + " in: " + line, pattern.matcher(withoutTexts(line)).find());
            }
        }
    }

    private static String withoutTexts(String line) {
        String bare = line.replaceAll("\"[^\"]*\"", "\"\"").replaceAll("//.*", "");
        return bare.trim().startsWith("/**") ? "" : bare;
    }

    private static void exceptionsAreThrownByAText(List<String> lines) {
        Pattern form = Pattern.compile("throw new (IllegalState|IllegalArgument|IndexOutOfBounds)Exception"
            + "\\(\"[^\"]*\"\\);");
        for (String line : lines) {
            if (line.contains("throw new")) {
                checks.yes("a throw by a text: " + line, form.matcher(line.trim()).matches());
            }
        }
    }

    private static void methodsAreShort(List<String> lines) {
        int begun = -1;
        String end = "";
        for (int i = 0; i < lines.size(); i++) {
            Matcher head = Pattern.compile("^( {4}| {8})[A-Za-z].*[({]$|^( {4}| {8})[A-Za-z].*\\)$")
                .matcher(lines.get(i));
            if (begun < 0 && head.matches() && !lines.get(i).contains(" class ")) {
                begun = i;
                end = lines.get(i).replaceAll("\\S.*", "") + "}";
            } else if (begun >= 0 && lines.get(i).equals(end)) {
                checks.yes("lines of " + lines.get(begun).trim(), i - begun < MOST_LINES);
                begun = -1;
            }
        }
    }

    /** So that a run of many calls needs no more room than a short one. */
    private static void objectsAreMadeInConstructorsAlone(List<String> lines) {
        List<String> made = new ArrayList<>();
        for (String line : lines) {
            if (line.contains("new ") && !line.contains("throw new")) {
                made.add(line.trim());
            }
        }
        for (String line : made) {
            boolean field = line.matches("(private )?(final )?\\w+(\\[\\])* \\w+ = new .*;");
            boolean filled = line.matches("\\w+\\[\\w+\\] = new \\w+\\(\\);");
            checks.yes("made as the works is made: " + line, field || filled);
        }
    }

    private static void membersArePrivate() {
        TreeSet<String> face = new TreeSet<>();
        for (Method method : ClinkerWorks.class.getDeclaredMethods()) {
            if (Modifier.isPublic(method.getModifiers())) {
                face.add(method.getName());
            }
        }
        for (Method method : ClinkerWorks.class.getDeclaredMethods()) {
            boolean open = Modifier.isPublic(method.getModifiers());
            checks.yes("public or private: " + method, open || Modifier.isPrivate(method.getModifiers()));
            checks.yes("a name of its own: " + method, open || !face.contains(method.getName()));
            checks.yes("arguments of " + method, method.getParameterCount() <= 7);
        }
        Class<?>[] inside = ClinkerWorks.class.getDeclaredClasses();
        checks.yes("classes: " + inside.length, inside.length < 12);
        for (Class<?> each : inside) {
            checks.yes("static: " + each, Modifier.isStatic(each.getModifiers()));
            for (Method method : each.getDeclaredMethods()) {
                checks.no("a name of the face: " + method, face.contains(method.getName()));
            }
        }
    }
}
