import java.io.IOException;
import java.lang.reflect.Method;
import java.lang.reflect.Modifier;
import java.nio.file.Files;
import java.nio.file.Path;
import java.util.HashMap;
import java.util.HashSet;
import java.util.List;
import java.util.Map;
import java.util.Set;
import java.util.regex.Matcher;
import java.util.regex.Pattern;

/** README.md tells every call of the face, and its examples answer what stands behind them. */
final class ReadmeTest {
    private static final Checks checks = new Checks();

    private static final String MAKING = "PolicyWorks x = new PolicyWorks();";
    private static final Pattern CALL =
        Pattern.compile("(?:int (\\w+) = )?x\\.(\\w+)\\(([^)]*)\\); +// (-?\\w+)(?:: .*)?");
    private static final Pattern SIGNATURE =
        Pattern.compile("`((?:int|long|boolean) \\w+\\([\\w, ]*\\))`");

    private static final Map<String, Long> WORDS =
        Map.of("BAD", -1L, "NONE", -2L, "true", 1L, "false", 0L);

    private static final Map<String, Integer> names = new HashMap<>();
    private static final Set<String> called = new HashSet<>();
    private static PolicyWorks x;

    public static void main(String[] args) throws IOException, ReflectiveOperationException {
        String readme = Files.readString(Path.of("README.md"));
        examples(readme);
        everyCallIsTold(readme);
        checks.due("how to run the tests is told", readme.contains("```sh\n.ci/run\n```"), true);
        checks.end();
    }

    private static void examples(String readme) throws ReflectiveOperationException {
        Matcher blocks = Pattern.compile("(?s)```java\n(.*?)```").matcher(readme);
        while (blocks.find()) {
            for (String line : blocks.group(1).split("\n")) {
                if (line.equals(MAKING)) {
                    x = new PolicyWorks();
                    names.clear();
                } else if (!line.isBlank()) {
                    example(line);
                }
            }
        }
    }

    private static void example(String line) throws ReflectiveOperationException {
        Matcher call = CALL.matcher(line);
        if (!call.matches()) {
            checks.due("the form of an example: " + line, false, true);
            return;
        }
        String[] words = call.group(3).isEmpty() ? new String[0] : call.group(3).split(", ");
        Object[] arguments = new Object[words.length];
        Class<?>[] types = new Class<?>[words.length];
        for (int i = 0; i < words.length; i++) {
            arguments[i] = names.containsKey(words[i]) ? names.get(words[i]) : Integer.valueOf(words[i]);
            types[i] = int.class;
        }
        Object answer = PolicyWorks.class.getMethod(call.group(2), types).invoke(x, arguments);
        long got = answer instanceof Boolean ? ((Boolean) answer ? 1 : 0) : ((Number) answer).longValue();
        String told = call.group(4);
        checks.due(line, got, WORDS.containsKey(told) ? WORDS.get(told) : Long.parseLong(told));
        called.add(call.group(2));
        if (call.group(1) != null) {
            names.put(call.group(1), (int) got);
        }
    }

    // The document's own words, so that a name of an argument can't differ either.
    private static void everyCallIsTold(String readme) throws IOException {
        String face = Files.readString(Path.of("../shared/DOC.md"));
        Set<String> told = new HashSet<>();
        Matcher signatures = SIGNATURE.matcher(readme);
        while (signatures.find()) {
            told.add(signatures.group(1));
            checks.due(signatures.group(1) + " stands in the document",
                face.contains("public " + signatures.group(1) + ";"), true);
        }
        for (Method m : PolicyWorks.class.getDeclaredMethods()) {
            if (Modifier.isPublic(m.getModifiers())) {
                boolean found = told.stream().anyMatch(s -> s.contains(" " + m.getName() + "("));
                checks.due(m.getName() + " is told", found, true);
                checks.due(m.getName() + " has an example", called.contains(m.getName()), true);
            }
        }
        for (String word : List.of("`BAD`", "`NONE`", "PolicyWorks()")) {
            checks.due(word + " is told", readme.contains(word), true);
        }
    }
}
