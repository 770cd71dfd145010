import java.io.ByteArrayOutputStream;
import java.io.IOException;
import java.io.PrintStream;
import java.lang.reflect.Field;
import java.lang.reflect.Method;
import java.lang.reflect.Modifier;
import java.nio.charset.StandardCharsets;
import java.nio.file.Files;
import java.nio.file.Path;
import java.util.ArrayList;
import java.util.Arrays;
import java.util.List;
import java.util.TreeMap;
import java.util.regex.Matcher;
import java.util.regex.Pattern;
import java.util.stream.Collectors;
import java.util.stream.Stream;

/** README.md says what the class does: its methods, statements, faults and words of the machine. */
public final class ReadmeTest {
    private static final Check CHECK = new Check("ReadmeTest");
    private static final int FIRST_FAULT = -1008;
    private static final int LAST_FAULT = -1001;

    public static void main(String[] args) throws IOException {
        String readme = read("README.md");
        example(readme);
        methods(section(readme, "### Methods"));
        statements(section(readme, "### Statements"));
        faults(section(readme, "### Faults"));
        machineWords(section(readme, "## The machine"));
        tests(section(readme, "## How to run the tests"));
        CHECK.end();
    }

    private static void example(String readme) throws IOException {
        String program = "```java\n" + read("src/test/java/Example.java") + "```\n";
        CHECK.due("Example.java stands in README.md", readme.contains(program), true);
        PrintStream screen = System.out;
        ByteArrayOutputStream printed = new ByteArrayOutputStream();
        System.setOut(new PrintStream(printed, true, StandardCharsets.UTF_8));
        Example.main(new String[0]);
        System.setOut(screen);
        String output = printed.toString(StandardCharsets.UTF_8).replace("\r", "");
        boolean isTold = readme.contains("It prints\n\n```text\n" + output + "```\n");
        CHECK.due("README.md says what Example prints: " + output, isTold, true);
    }

    private static void methods(String section) {
        List<String> told = rows(section).stream().map(row -> withoutNames(row.get(0))).sorted().toList();
        List<String> due = new ArrayList<>();
        due.add("QueryForge()");
        for (Method method : QueryForge.class.getDeclaredMethods()) {
            if (Modifier.isPublic(method.getModifiers())) {
                due.add(method.getReturnType() + " " + method.getName()
                    + Arrays.stream(method.getParameterTypes()).map(Class::getName)
                        .collect(Collectors.joining(",", "(", ")")));
            }
        }
        due.sort(null);
        CHECK.due("methods " + told + " of " + due, told.equals(due), true);
    }

    /** The answers of the table, on one object, in the table's order. */
    private static void statements(String section) {
        CHECK.fresh();
        List<List<String>> rows = rows(section);
        for (List<String> row : rows) {
            CHECK.act(quoted(row.get(0)).get(0), Integer.parseInt(row.get(1)));
        }
        for (String kind : List.of("create", "insert", "delete", "update", "select")) {
            boolean isTold = rows.stream().anyMatch(row -> row.get(0).startsWith("`" + kind + " "));
            CHECK.due("a statement " + kind, isTold, true);
        }
    }

    /** Each example is asked behind all those above it: none of them may have changed anything. */
    private static void faults(String section) {
        String setUp = section.substring(section.indexOf("that has done "), section.indexOf("\n\n|"));
        CHECK.fresh(quoted(setUp).toArray(new String[0]));
        List<Integer> told = new ArrayList<>();
        for (List<String> row : rows(section)) {
            int fault = Integer.parseInt(row.get(0));
            CHECK.act(quoted(row.get(3)).get(0), fault);
            told.add(fault);
        }
        for (int fault = FIRST_FAULT; fault <= LAST_FAULT; fault++) {
            CHECK.due("fault " + fault + " is told", told.contains(fault), true);
        }
        CHECK.due("a wrong word is told", told.stream().anyMatch(fault -> fault > LAST_FAULT), true);
    }

    /** The numbers of the machine's words, up to the last one that it knows. */
    private static void machineWords(String section) {
        TreeMap<Integer, String> told = new TreeMap<>();
        for (List<String> row : rows(section)) {
            String[] numbers = row.get(0).split(" \\.\\. ");
            int number = Integer.parseInt(numbers[0]);
            for (String word : row.get(1).split(", ")) {
                told.put(number, word.split(" ")[0]);
                number++;
            }
            CHECK.due("the last word of " + row.get(1), number - 1, Integer.parseInt(numbers[numbers.length - 1]));
        }
        TreeMap<Integer, String> due = constants("QueryForge$Machine");
        due.values().remove("PLACE");
        CHECK.due("words " + told + " of " + due, told.equals(due), true);
    }

    private static void tests(String section) throws IOException {
        try (Stream<Path> files = Files.list(Path.of("src/test/java"))) {
            for (Path file : files.toList()) {
                String name = file.getFileName().toString().replace(".java", "");
                boolean isTold = !name.endsWith("Test") || section.contains(name);
                CHECK.due(name + " is told of", isTold, true);
            }
        }
    }

    /** The constants of a class that are not private, by number. */
    private static TreeMap<Integer, String> constants(String className) {
        TreeMap<Integer, String> constants = new TreeMap<>();
        try {
            for (Field field : Class.forName(className).getDeclaredFields()) {
                if (Modifier.isStatic(field.getModifiers()) && !Modifier.isPrivate(field.getModifiers())) {
                    field.setAccessible(true);
                    constants.put(field.getInt(null), field.getName());
                }
            }
        } catch (ReflectiveOperationException problem) {
            CHECK.due(problem.toString(), false, true);
        }
        return constants;
    }

    private static String read(String file) throws IOException {
        return Files.readString(Path.of(file)).replace("\r", "");
    }

    /** From a heading to the next one. */
    private static String section(String readme, String heading) {
        int from = readme.indexOf("\n" + heading + "\n");
        CHECK.due("README.md has " + heading, from >= 0, true);
        int start = Math.max(0, from) + heading.length() + 2;
        Matcher next = Pattern.compile("\n##+ ").matcher(readme);
        return readme.substring(start, next.find(start) ? next.start() : readme.length());
    }

    /** The cells of all rows of tables but their first two. */
    private static List<List<String>> rows(String section) {
        List<List<String>> rows = new ArrayList<>();
        boolean isBody = false;
        for (String line : section.split("\n")) {
            if (isBody && line.startsWith("| ")) {
                rows.add(Arrays.stream(line.substring(1).split("\\|")).map(String::trim).toList());
            }
            isBody = line.startsWith("| ") && (isBody || line.startsWith("| --- "));
        }
        CHECK.due("README.md has a table there", !rows.isEmpty(), true);
        return rows;
    }

    /** What stands between two signs ` each. */
    private static List<String> quoted(String text) {
        return Pattern.compile("`([^`]*)`").matcher(text).results().map(found -> found.group(1)).toList();
    }

    private static String withoutNames(String signature) {
        return quoted(signature).get(0).replaceAll("(int) [a-z]+(,|\\))( ?)", "$1$2");
    }
}
