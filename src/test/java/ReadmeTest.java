import java.io.IOException;
import java.lang.reflect.Method;
import java.lang.reflect.Modifier;
import java.nio.file.Files;
import java.nio.file.Path;
import java.util.List;
import java.util.TreeSet;
import java.util.regex.Matcher;
import java.util.regex.Pattern;

/** What README.md says of the calls: its example answers as it says, and its table has them all; run from the folder. */
public final class ReadmeTest {
    private static final Path README = Path.of("README.md");
    private static final Pattern EXAMPLE = Pattern.compile("works\\.(\\w+)\\(([^)]*)\\); *// (\\S+): .+");
    private static final Pattern NAME = Pattern.compile("`(\\w+)`");

    private static final Checks checks = new Checks("ReadmeTest");

    public static void main(String[] args) throws IOException {
        List<String> lines = Files.readAllLines(README);
        theExampleAnswersAsItSays(lines);
        theTableHasEachCall(lines);
        checks.finish();
    }

    private static void theExampleAnswersAsItSays(List<String> lines) {
        ClinkerWorks works = new ClinkerWorks();
        int calls = 0;
        for (String line : lines) {
            if (!line.startsWith("works.")) {
                continue;
            }
            Matcher example = EXAMPLE.matcher(line);
            boolean read = example.matches();
            checks.yes("a call with its answer: " + line, read);
            if (read) {
                String got = answer(works, example.group(1), example.group(2));
                checks.yes(line + " answered " + got, got.equals(example.group(3)));
                calls++;
            }
        }
        checks.yes("an example, of " + calls + " calls", calls > 0);
    }

    private static String answer(ClinkerWorks works, String name, String numbers) {
        String[] texts = numbers.isEmpty() ? new String[0] : numbers.split(", ");
        Object[] values = new Object[texts.length];
        Class<?>[] types = new Class<?>[texts.length];
        for (int i = 0; i < texts.length; i++) {
            values[i] = Integer.valueOf(texts[i]);
            types[i] = int.class;
        }
        try {
            return String.valueOf(ClinkerWorks.class.getMethod(name, types).invoke(works, values));
        } catch (ReflectiveOperationException thrown) {
            return String.valueOf(thrown.getCause() == null ? thrown : thrown.getCause());
        }
    }

    private static void theTableHasEachCall(List<String> lines) {
        TreeSet<String> told = new TreeSet<>();
        for (String line : lines) {
            Matcher name = NAME.matcher(line);
            while (line.startsWith("| `") && name.find()) {
                checks.yes("told once: " + name.group(1), told.add(name.group(1)));
            }
        }
        TreeSet<String> face = new TreeSet<>();
        for (Method method : ClinkerWorks.class.getDeclaredMethods()) {
            if (Modifier.isPublic(method.getModifiers())) {
                face.add(method.getName());
            }
        }
        checks.yes("the table " + told + " has the face " + face, told.equals(face));
    }
}
