import java.io.IOException;
import java.lang.reflect.Method;
import java.lang.reflect.Modifier;
import java.nio.file.Files;
import java.nio.file.Path;
import java.util.ArrayList;
import java.util.LinkedHashSet;
import java.util.List;
import java.util.Set;
import java.util.regex.Matcher;
import java.util.regex.Pattern;
import java.util.stream.Stream;

/** What README.md shows a user is so: the calls with their answers, the table of calls, the names of the tests. */
public final class ReadmeTest extends Bench {
    private static final Pattern MADE = Pattern.compile("WorldHall hall = new WorldHall\\((-?\\d+), (-?\\d+)\\);.*");
    private static final Pattern SHOWN = Pattern.compile("hall\\.(\\w+)\\(([^)]*)\\); +// (-?\\d+): .*");
    private static final Pattern REFUSAL = Pattern.compile("\\b(NONE|BAD|STATE|FULL)\\b|-5");

    public static void main(String[] args) throws IOException, ReflectiveOperationException {
        String readme = Files.readString(Path.of("README.md"));
        shownCalls(readme);
        constants(readme);
        table(readme, Files.readString(Path.of("../shared/DOC.md")));
        tests(readme);
        finish();
    }

    /** All that is shown in Java is one run on one hall. */
    private static void shownCalls(String readme) throws ReflectiveOperationException {
        place("the calls shown");
        WorldHall hall = null;
        Set<String> called = new LinkedHashSet<>();
        for (String line : javaLines(readme)) {
            Matcher made = MADE.matcher(line);
            Matcher shown = SHOWN.matcher(line);
            if (made.matches()) {
                hall = new WorldHall(Integer.parseInt(made.group(1)), Integer.parseInt(made.group(2)));
            } else if (hall != null && shown.matches()) {
                due(line, answerOf(hall, shown.group(1), shown.group(2)), Integer.parseInt(shown.group(3)));
                called.add(shown.group(1));
            } else {
                due("no call with its answer: " + line, 1, 0);
            }
        }
        due("calls shown more than twenty: " + called, called.size() > 20 ? 1 : 0, 1);
    }

    private static List<String> javaLines(String readme) {
        List<String> lines = new ArrayList<>();
        Matcher block = Pattern.compile("(?s)```java\n(.*?)```").matcher(readme);
        while (block.find()) {
            lines.addAll(block.group(1).lines().toList());
        }
        return lines;
    }

    private static int answerOf(WorldHall hall, String name, String told) throws ReflectiveOperationException {
        Method method = callNamed(name);
        String[] words = told.isEmpty() ? new String[0] : told.split(", ");
        Object[] arguments = new Object[words.length];
        for (int i = 0; i < words.length; i++) {
            long number = Long.decode(words[i].replace("L", ""));
            arguments[i] = method.getParameterTypes()[i] == int.class ? (Object) (int) number : (Object) number;
        }
        return (int) method.invoke(hall, arguments);
    }

    private static Method callNamed(String name) {
        return calls().filter(method -> method.getName().equals(name)).findFirst().orElseThrow();
    }

    private static Stream<Method> calls() {
        return Stream.of(WorldHall.class.getDeclaredMethods()).filter(m -> Modifier.isPublic(m.getModifiers()));
    }

    private static void constants(String readme) throws ReflectiveOperationException {
        place("the constants");
        for (String name : List.of("NONE", "BAD", "STATE", "FULL")) {
            String row = "| `" + name + "` | " + WorldHall.class.getField(name).getInt(null) + " |";
            due("is there " + row, readme.contains(row) ? 1 : 0, 1);
        }
    }

    /** Each call's row has the parameters' names and the refusals in the order of the document. */
    private static void table(String readme, String document) {
        place("the table of calls");
        Matcher told = Pattern.compile("`int (\\w+)\\(([^)]*)\\)`: (.*)").matcher(document);
        int rows = 0;
        while (told.find()) {
            String call = told.group(1) + "(" + told.group(2).replaceAll("\\w+ (\\w+)", "$1") + ")";
            String row = readme.lines().filter(line -> line.startsWith("| `" + call + "` |")).findFirst().orElse("");
            due("row of " + call, row.isEmpty() ? 0 : 1, 1);
            due("refusals of " + call + " " + refusals(row) + refusals(told.group(3)),
                refusals(row).equals(refusals(told.group(3))) ? 1 : 0, 1);
            rows++;
        }
        due("rows", rows, calls().count());
    }

    private static List<String> refusals(String text) {
        Set<String> found = new LinkedHashSet<>();
        Matcher refusal = REFUSAL.matcher(text);
        while (refusal.find()) {
            found.add(refusal.group());
        }
        return new ArrayList<>(found);
    }

    private static void tests(String readme) throws IOException {
        place("the names of the tests");
        try (Stream<Path> files = Files.list(Path.of("src/test/java"))) {
            for (Path file : files.toList()) {
                due("is named: " + file, readme.contains(file.getFileName().toString()) ? 1 : 0, 1);
            }
        }
        due(".ci/run can be run", Files.isExecutable(Path.of(".ci/run")) ? 1 : 0, 1);
    }
}
