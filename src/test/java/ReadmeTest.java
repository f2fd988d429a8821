import java.io.ByteArrayOutputStream;
import java.io.IOException;
import java.io.PrintStream;
import java.lang.reflect.Method;
import java.lang.reflect.Modifier;
import java.nio.charset.StandardCharsets;
import java.nio.file.Files;
import java.nio.file.Path;
import java.util.ArrayList;
import java.util.List;
import java.util.TreeSet;
import java.util.regex.Matcher;
import java.util.regex.Pattern;
import java.util.stream.Stream;

/** What README.md says of the program and of its tests is so. */
public final class ReadmeTest {
    private static final Path TESTS = Path.of("src/test/java");
    private static final Pattern CALL_ROW = Pattern.compile("\\| `(\\w+)\\((.*?)\\)` \\|.*\\|(.*)\\|");
    private static final Pattern TEST_ROW = Pattern.compile("(?m)^\\| `(\\w+Test)` \\|");
    private static final Pattern ORDER_ROW = Pattern.compile("(?m)^\\| `([^`]*;)` \\|");
    private static final Pattern EXCEPTION = Pattern.compile("`(\\w+Exception)`");

    private static String readme = "";

    private static void dueTrue(String what, boolean got) {
        Check.due(what, got ? 1 : 0, 1);
    }

    private static void example() throws IOException {
        String source = Files.readString(TESTS.resolve("Example.java"));
        String program = source.substring(source.indexOf("public final class"));
        dueTrue("README.md has Example.java", readme.contains("```java\n" + program + "```"));
        PrintStream before = System.out;
        ByteArrayOutputStream printed = new ByteArrayOutputStream();
        System.setOut(new PrintStream(printed, true, StandardCharsets.UTF_8));
        Example.main(new String[0]);
        System.setOut(before);
        String lines = printed.toString(StandardCharsets.UTF_8).replace(System.lineSeparator(), "\n");
        dueTrue("README.md has what Example prints:\n" + lines, readme.contains("```text\n" + lines + "```"));
    }

    private static void orders() {
        StringBuilder list = new StringBuilder();
        Matcher row = ORDER_ROW.matcher(readme);
        int rows = 0;
        while (row.find()) {
            list.append(row.group(1).replace("TEST", "not day<3 and [min(ration, 2)=-1 or got fore>=1]"));
            rows++;
        }
        Check.due("lines of orders in README.md", rows, 6);
        Check.ship(list.toString());
    }

    private static void calls() {
        TreeSet<String> told = new TreeSet<>();
        for (String line : readme.split("\n")) {
            Matcher row = CALL_ROW.matcher(line);
            if (row.matches()) {
                List<String> refused = new ArrayList<>();
                EXCEPTION.matcher(row.group(3)).results().forEach(found -> refused.add(found.group(1)));
                int parameters = row.group(2).isEmpty() ? 0 : row.group(2).split(",").length;
                told.add(row.group(1) + " " + parameters + " " + refused);
            }
        }
        TreeSet<String> due = new TreeSet<>();
        for (Method method : BiscuitMess.class.getDeclaredMethods()) {
            if (Modifier.isPublic(method.getModifiers())) {
                List<String> thrown = new ArrayList<>();
                for (Class<?> one : method.getExceptionTypes()) {
                    thrown.add(one.getSimpleName());
                }
                due.add(method.getName() + " " + method.getParameterCount() + " " + thrown);
            }
        }
        dueTrue("the calls in README.md are " + told + ", of the class " + due, told.equals(due));
    }

    private static void tests() throws IOException {
        TreeSet<String> told = new TreeSet<>();
        TEST_ROW.matcher(readme).results().forEach(found -> told.add(found.group(1)));
        TreeSet<String> due = new TreeSet<>();
        try (Stream<Path> files = Files.list(TESTS)) {
            files.map(file -> file.getFileName().toString()).filter(name -> name.endsWith("Test.java"))
                    .forEach(name -> due.add(name.replace(".java", "")));
        }
        dueTrue("the tests in README.md are " + told + ", there are " + due, told.equals(due));
    }

    private static void parts() {
        for (Class<?> part : BiscuitMess.class.getDeclaredClasses()) {
            dueTrue("README.md names " + part.getSimpleName(), readme.contains("`" + part.getSimpleName() + "`"));
        }
    }

    public static void main(String[] args) throws IOException {
        readme = Files.readString(Path.of("README.md"));
        example();
        orders();
        calls();
        tests();
        parts();
        Check.end("ReadmeTest");
    }
}
