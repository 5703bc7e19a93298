import java.lang.reflect.Method;
import java.nio.file.Files;
import java.nio.file.Path;
import java.util.Arrays;
import java.util.List;
import java.util.regex.Matcher;
import java.util.regex.Pattern;
import java.util.stream.Stream;

/** README.md: its examples answer what stands behind them; every call and every test is told there. */
public final class ReadmeTest {
    private static final Pattern CALL = Pattern.compile("x\\.(\\w+)\\(([^()]*)\\);\\s*// (-?\\d+)\\b.*");

    private static SealedProcesses x = new SealedProcesses();

    public static void main(String[] args) throws Exception {
        Path root = Path.of(args.length > 0 ? args[0] : ".");
        List<String> lines = Files.readAllLines(root.resolve("README.md"));
        examples(lines);
        String text = String.join("\n", lines);
        for (Method method : SealedProcesses.class.getMethods()) {
            if (method.getDeclaringClass() == SealedProcesses.class) {
                Check.due("a row for " + method.getName(), text.contains("`" + method.getName() + "("), true);
            }
        }
        try (Stream<Path> tests = Files.list(root.resolve("src/test/java"))) {
            for (Path test : tests.toList()) {
                String name = test.getFileName().toString().replace(".java", "");
                Check.due("a row for " + name, !name.endsWith("Test") || text.contains("`" + name + "`"), true);
            }
        }
        Check.due("how to run the tests", text.contains("```sh\n.ci/run\n```"), true);
        Check.end();
    }

    private static void examples(List<String> lines) throws Exception {
        boolean inside = false;
        int calls = 0;
        for (String line : lines) {
            if (line.startsWith("```")) {
                inside = line.equals("```java");
            } else if (inside && line.equals("SealedProcesses x = new SealedProcesses();")) {
                x = new SealedProcesses();
            } else if (inside) {
                example(line);
                calls++;
            }
        }
        Check.due("there are examples", calls > 0, true);
    }

    private static void example(String line) throws Exception {
        Matcher call = CALL.matcher(line);
        boolean isCall = call.matches();
        Check.due("a call with its answer: " + line, isCall, true);
        if (!isCall) {
            return;
        }
        Object[] given = Arrays.stream(call.group(2).split(", ")).map(ReadmeTest::number).toArray();
        Class<?>[] types = new Class<?>[given.length];
        Arrays.fill(types, int.class);
        Object got = SealedProcesses.class.getMethod(call.group(1), types).invoke(x, given);
        Check.due(line, got instanceof Integer number ? number : (Boolean) got ? 1 : 0,
            Integer.parseInt(call.group(3)));
    }

    private static Object number(String text) {
        return text.startsWith("0x") ? Integer.parseUnsignedInt(text.substring(2), 16) : Integer.parseInt(text);
    }
}
