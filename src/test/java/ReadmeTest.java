import java.io.IOException;
import java.lang.reflect.Method;
import java.lang.reflect.Modifier;
import java.nio.file.Files;
import java.nio.file.Path;
import java.util.List;
import java.util.regex.Matcher;
import java.util.regex.Pattern;
import java.util.stream.Collectors;
import java.util.stream.Stream;

/** README.md says how to use the class and how to run its tests, and what it says is so. */
public final class ReadmeTest {
    private static final Due due = new Due("ReadmeTest");
    private static final Pattern EXAMPLE = Pattern.compile("(?m)^x\\.([a-z]+)\\(([^)]*)\\); +// (-?\\d+): ");
    private static final Pattern FACE = Pattern.compile("public (?:int|long) ([a-z]+)\\(([^)]*)\\);");
    private static final Pattern READ = Pattern.compile("`(tenement;[^`]*)`");

    public static void main(String[] args) throws ReflectiveOperationException, IOException {
        Path project = Path.of(System.getProperty("project", "."));
        String readme = Files.readString(project.resolve("README.md"));
        examplesAnswerAsTold(readme);
        theTextIsRead(readme);
        everyCallIsNamed(readme);
        answersAreNamed(readme);
        everyTestIsNamed(readme, project.resolve("src/test/java"));
        due.end();
    }

    private static void examplesAnswerAsTold(String readme) throws ReflectiveOperationException {
        StairSteps x = new StairSteps();
        Matcher m = EXAMPLE.matcher(readme);
        int many = 0;
        while (m.find()) {
            many++;
            due.is("README: " + m.group(), answer(x, m.group(1), numbers(m.group(2))), Long.parseLong(m.group(3)));
        }
        due.holds("examples", many > 10);
    }

    private static Object[] numbers(String told) {
        if (told.isEmpty()) return new Object[0];
        return Stream.of(told.split(", ")).map(n -> n.equals("StairSteps.NONE") ? StairSteps.NONE : Integer.parseInt(n)).toArray();
    }

    private static long answer(StairSteps x, String name, Object[] numbers) throws ReflectiveOperationException {
        for (Method method : StairSteps.class.getDeclaredMethods()) {
            boolean isIt = method.getName().equals(name) && method.getParameterCount() == numbers.length;
            if (isIt && Modifier.isPublic(method.getModifiers())) return ((Number) method.invoke(x, numbers)).longValue();
        }
        due.holds("there is a call " + name, false);
        return 0;
    }

    private static void theTextIsRead(String readme) {
        Matcher m = READ.matcher(readme);
        due.holds("a text is shown", m.find());
        String text = m.group(1);
        long items = text.chars().filter(c -> c == ';').count();
        due.is("README: " + text, Due.read(new StairSteps(), text), items);
    }

    /** Each is named with the document's own names for its numbers. */
    private static void everyCallIsNamed(String readme) {
        Matcher m = FACE.matcher(Due.document());
        int many = 0;
        while (m.find()) {
            many++;
            String call = m.group(1) + "(" + m.group(2).replace("int ", "") + ")";
            due.holds("README names " + call, readme.contains("`" + call + "`"));
        }
        due.is("calls", many, 38);
    }

    private static void answersAreNamed(String readme) {
        due.holds("NONE", readme.contains("`NONE` (" + StairSteps.NONE + ")"));
        due.holds("BAD", readme.contains("`BAD` (" + StairSteps.BAD + ")"));
        due.holds("NO", readme.contains("`NO` (" + StairSteps.NO + ")"));
        due.holds("FULL", readme.contains("`FULL` (" + StairSteps.FULL + ")"));
        due.holds("512 calls", readme.contains("512 calls"));
    }

    private static void everyTestIsNamed(String readme, Path folder) throws IOException {
        due.holds("how to run the tests", readme.contains("`.ci/run`"));
        try (Stream<Path> files = Files.list(folder)) {
            List<String> tests = files.map(p -> p.getFileName().toString()).filter(n -> n.endsWith("Test.java")).collect(Collectors.toList());
            for (String test : tests) {
                String name = test.substring(0, test.length() - ".java".length());
                due.holds("README names " + name, readme.contains("| `" + name + "` |"));
            }
            for (Matcher m = Pattern.compile("\\| `([A-Z]\\w*Test)` \\|").matcher(readme); m.find();) {
                due.holds("there is a " + m.group(1), tests.contains(m.group(1) + ".java"));
            }
        }
    }
}
