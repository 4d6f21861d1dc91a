import java.io.IOException;
import java.lang.reflect.Method;
import java.lang.reflect.Modifier;
import java.nio.file.DirectoryStream;
import java.nio.file.Files;
import java.nio.file.Path;
import java.util.Arrays;
import java.util.regex.Matcher;
import java.util.regex.Pattern;

/** README.md tells the truth: its run of calls answers as told, and no call or test is left out. */
public final class ReadmeTest {
    private static final Path README = Path.of("README.md");
    private static final Path TESTS = Path.of("src", "test", "java");
    private static final Pattern ROW = Pattern.compile("(?m)^x\\.(\\w+)\\(([-0-9, ]*)\\);\\s*// (-?\\d+): ");
    private static final Pattern CALL = Pattern.compile("(?m)^x\\.");

    private static final Check check = new Check("ReadmeTest");

    public static void main(String[] args) throws Exception {
        String text = Files.readString(README);
        runOfCalls(text);
        everyCall(text);
        everyTest(text);
        check.end();
    }

    private static void runOfCalls(String text) throws Exception {
        WaterMeadows x = new WaterMeadows();
        long rows = 0;
        Matcher row = ROW.matcher(text);
        while (row.find()) {
            rows++;
            int[] numbers = Arrays.stream(row.group(2).split(",")).map(String::trim).mapToInt(Integer::parseInt).toArray();
            check.due(row.group(1) + "(" + row.group(2) + ")", answer(x, row.group(1), numbers), Integer.parseInt(row.group(3)));
        }
        check.due("calls that are told with an answer", rows, CALL.matcher(text).results().count());
        check.holds("there is a run of calls", rows > 0);
    }

    private static int answer(WaterMeadows x, String name, int[] numbers) throws Exception {
        Class<?>[] types = new Class<?>[numbers.length];
        Arrays.fill(types, int.class);
        Object[] boxed = Arrays.stream(numbers).boxed().toArray();
        return (Integer) WaterMeadows.class.getMethod(name, types).invoke(x, boxed);
    }

    private static void everyCall(String text) {
        for (Method m : WaterMeadows.class.getDeclaredMethods()) {
            if (Modifier.isPublic(m.getModifiers())) {
                check.holds(m.getName() + " is told in a table or a sentence", text.contains("`" + m.getName() + "("));
            }
        }
    }

    private static void everyTest(String text) throws IOException {
        try (DirectoryStream<Path> files = Files.newDirectoryStream(TESTS, "*Test.java")) {
            for (Path file : files) {
                String name = file.getFileName().toString().replace(".java", "");
                check.holds(name + " is told in the table of tests", text.contains("\n| `" + name + "` |"));
            }
        }
    }
}
