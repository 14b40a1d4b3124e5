import java.io.IOException;
import java.lang.reflect.Method;
import java.nio.file.Files;
import java.nio.file.Path;
import java.util.HashMap;
import java.util.Map;
import java.util.Set;
import java.util.TreeSet;
import java.util.regex.Matcher;
import java.util.regex.Pattern;

/**
 * README.md tells the truth: each line of its examples is a call with its answer, as the class (and
 * PlainModel) give it; they show every call of the face; and its table names every test.
 */
public final class ReadmeTest {
    private static final Pattern FRESH = Pattern.compile("BeggarCorners x = new BeggarCorners\\(\\);");
    private static final Pattern CALL = Pattern.compile("x\\.(\\w+)\\(([^)]*)\\); +// ([-\\w]+)(:.*)?");
    private static final Due DUE = new Due();

    public static void main(String[] args) throws Exception {
        String readme = Files.readString(Path.of(System.getProperty("beggar.readme", "README.md")));
        Set<String> shown = examples(readme);
        Set<String> face = new TreeSet<>();
        for (Method m : PlainModel.class.getMethods()) {
            if (m.getDeclaringClass() == PlainModel.class) {
                face.add(m.getName());
            }
        }
        DUE.sentence("README.md says how to use the class");
        DUE.is("calls that no example shows: " + without(face, shown), without(face, shown).size(), 0);
        testsAreNamed(readme);
        DUE.end();
    }

    private static Set<String> without(Set<String> all, Set<String> some) {
        Set<String> left = new TreeSet<>(all);
        left.removeAll(some);
        return left;
    }

    private static Set<String> examples(String readme) throws Exception {
        DUE.sentence("README.md's examples");
        Set<String> shown = new TreeSet<>();
        Matcher blocks = Pattern.compile("(?s)```java\n(.*?)```").matcher(readme);
        while (blocks.find()) {
            BeggarCorners x = null;
            PlainModel model = null;
            for (String line : blocks.group(1).split("\n")) {
                Matcher call = CALL.matcher(line);
                if (FRESH.matcher(line).matches()) {
                    x = new BeggarCorners();
                    model = new PlainModel();
                } else if (call.matches() && x != null) {
                    shown.add(call.group(1));
                    DUE.is(line, answer(x, call), number(call.group(3)));
                    DUE.is(line + " (model)", answer(model, call), number(call.group(3)));
                } else if (!line.isBlank()) {
                    DUE.is("a line that is no call with its answer: " + line, 0, 1);
                }
            }
        }
        return shown;
    }

    private static int answer(Object of, Matcher call) throws ReflectiveOperationException {
        String[] words = call.group(2).isBlank() ? new String[0] : call.group(2).split(", *");
        Object[] numbers = new Object[words.length];
        Class<?>[] types = new Class<?>[words.length];
        for (int i = 0; i < words.length; i++) {
            numbers[i] = number(words[i].replace("BeggarCorners.", ""));
            types[i] = int.class;
        }
        return (Integer) of.getClass().getMethod(call.group(1), types).invoke(of, numbers);
    }

    private static int number(String word) {
        Map<String, Integer> named = new HashMap<>(Map.of("BAD", Due.BAD, "NO", Due.NO, "FULL", Due.FULL, "NONE", Due.NONE,
                "NOTHING", Due.NOTHING, "KIND", Due.KIND, "INDEX", Due.INDEX, "SIZE", Due.SIZE));
        return named.containsKey(word) ? named.get(word) : Long.decode(word).intValue();
    }

    private static void testsAreNamed(String readme) throws IOException {
        DUE.sentence("README.md says how to run its tests");
        DUE.is("it names .ci/run", readme.contains("    .ci/run\n") ? 1 : 0, 1);
        Path tests = Path.of(System.getProperty("beggar.tests", "src/test/java"));
        try (var files = Files.list(tests)) {
            for (Path file : (Iterable<Path>) files::iterator) {
                String name = file.getFileName().toString().replace(".java", "");
                DUE.is("it names " + name, readme.contains("`" + name + "`") ? 1 : 0, 1);
            }
        }
    }
}
