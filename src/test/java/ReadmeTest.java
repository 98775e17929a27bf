import java.io.IOException;
import java.lang.reflect.Method;
import java.lang.reflect.Modifier;
import java.nio.file.Files;
import java.nio.file.Path;
import java.util.Set;
import java.util.TreeSet;
import java.util.regex.Matcher;
import java.util.regex.Pattern;
import java.util.stream.Collectors;
import java.util.stream.Stream;

/** What README.md shows is so: its calls and answers, its findings, its tests; the argument is the project's root. */
public final class ReadmeTest {
    private static final String NEW_FARM = "GateManners farm = new GateManners();";
    private static final Pattern CALL = Pattern.compile("farm\\.(\\w+)\\(([^)]*)\\); +// (-?\\d+)(: .+)?");
    private static final Pattern FINDING = Pattern.compile("(?m)^\\| (-\\d+) \\| ([A-Z]+) \\|");
    private static final Pattern TEST = Pattern.compile("(?m)^\\| (\\w+Test) \\|");

    public static void main(String[] args) throws IOException, ReflectiveOperationException {
        Path root = Path.of(args.length > 0 ? args[0] : ".");
        String readme = Files.readString(root.resolve("README.md"));
        theCalls(readme);
        theFindings(readme);
        theTests(readme, root);
        Due.end();
    }

    /** A line in a block that is no call with its answer counts as wrong, so that none goes unlooked at. */
    private static void theCalls(String readme) throws ReflectiveOperationException {
        Set<String> shown = new TreeSet<>();
        GateManners farm = null;
        boolean inBlock = false;
        for (String line : readme.split("\n")) {
            Matcher call = CALL.matcher(line);
            if (line.startsWith("```")) {
                inBlock = line.equals("```java");
                farm = null;
            } else if (inBlock && farm == null && line.equals(NEW_FARM)) {
                farm = new GateManners();
            } else if (inBlock && farm != null && call.matches()) {
                shown.add(call.group(1));
                Due.due(line, answer(farm, call.group(1), call.group(2)), Long.parseLong(call.group(3)));
            } else if (inBlock) {
                Due.due("can't be read: " + line, 1, 0);
            }
        }
        Due.due("methods that are shown: " + shown, shown.size(), face().size());
    }

    private static Set<String> face() {
        return Stream.of(GateManners.class.getDeclaredMethods())
                .filter(method -> Modifier.isPublic(method.getModifiers()))
                .map(Method::getName)
                .collect(Collectors.toSet());
    }

    private static long answer(GateManners farm, String name, String told) throws ReflectiveOperationException {
        String[] words = told.isEmpty() ? new String[0] : told.split(", ");
        Class<?>[] types = new Class<?>[words.length];
        Object[] values = new Object[words.length];
        for (int i = 0; i < words.length; i++) {
            types[i] = int.class;
            values[i] = Integer.decode(words[i]);
        }
        return ((Number) GateManners.class.getMethod(name, types).invoke(farm, values)).longValue();
    }

    private static void theFindings(String readme) {
        String[] names = {"BEYOND", "FULL", "KIND", "NONE", "STATE", "MISSING", "SIZE"};
        long[] numbers = {Due.BEYOND, Due.FULL, Due.KIND, Due.NONE, Due.STATE, Due.MISSING, Due.SIZE};
        Matcher row = FINDING.matcher(readme);
        int rows = 0;
        while (row.find()) {
            if (rows < names.length) {
                Due.due("finding " + row.group(2), row.group(2).equals(names[rows]) ? 1 : 0, 1);
                Due.due("number of " + row.group(2), Long.parseLong(row.group(1)), numbers[rows]);
            }
            rows++;
        }
        Due.due("findings that are shown", rows, names.length);
    }

    private static void theTests(String readme, Path root) throws IOException {
        Set<String> told = TEST.matcher(readme).results().map(row -> row.group(1)).collect(Collectors.toSet());
        Set<String> there;
        try (Stream<Path> files = Files.list(root.resolve("src/test/java"))) {
            there = files.map(file -> file.getFileName().toString())
                    .filter(name -> name.endsWith("Test.java"))
                    .map(name -> name.substring(0, name.length() - ".java".length()))
                    .collect(Collectors.toSet());
        }
        Due.due("tests that are told, " + told + ", are those that are there, " + there, told.equals(there) ? 1 : 0, 1);
        Due.due(".ci/run can be run", Files.isExecutable(root.resolve(".ci/run")) ? 1 : 0, 1);
    }
}
