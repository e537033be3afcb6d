import java.io.IOException;
import java.lang.reflect.Method;
import java.lang.reflect.Modifier;
import java.nio.file.Files;
import java.nio.file.Path;
import java.util.HashMap;
import java.util.List;
import java.util.Map;
import java.util.TreeSet;
import java.util.regex.Matcher;
import java.util.regex.Pattern;
import java.util.stream.Collectors;
import java.util.stream.Stream;

/** What README.md says is so: its examples answer what stands behind them, its tables name all calls and tests. */
public final class ReadmeTest {
    private static final Pattern MADE = Pattern.compile("RingMachine (\\w+) = new RingMachine\\(\\);");
    private static final Pattern CALL = Pattern.compile("(\\w+)\\.(\\w+)\\((.*)\\); +// (-?\\w+)(:.*)?");
    private static final Pattern ROW = Pattern.compile("\\| `(\\w+\\(.*?\\))` \\|.*");
    private static final Pattern TEST = Pattern.compile("\\b\\w+Test\\b");

    public static void main(String[] args) throws IOException, ReflectiveOperationException {
        Due due = new Due();
        List<String> lines = Files.readAllLines(Path.of("README.md"));
        due.yes("README.md has examples", examples(due, lines) > 0);
        calls(due, lines);
        tests(due, lines);
        due.finish();
    }

    private static int examples(Due due, List<String> lines) throws ReflectiveOperationException {
        Map<String, RingMachine> made = new HashMap<>();
        boolean code = false;
        int tried = 0;
        for (String line : lines) {
            if (line.startsWith("```")) {
                code = line.equals("```java");
            } else if (code) {
                example(due, made, line);
                tried++;
            }
        }
        return tried;
    }

    private static void example(Due due, Map<String, RingMachine> made, String line)
            throws ReflectiveOperationException {
        Matcher maker = MADE.matcher(line);
        Matcher call = CALL.matcher(line);
        if (maker.matches()) {
            made.put(maker.group(1), new RingMachine());
        } else if (call.matches()) {
            Object got = answer(made.get(call.group(1)), call.group(2), call.group(3));
            due.same(line, got.toString(), call.group(4));
        } else {
            due.same("a line of an example", line, "a call with its answer");
        }
    }

    private static Object answer(RingMachine machine, String name, String arguments)
            throws ReflectiveOperationException {
        String[] texts = arguments.isEmpty() ? new String[0] : arguments.split(", ");
        Method method = methodOf(name);
        Class<?>[] types = method.getParameterTypes();
        Object[] values = new Object[texts.length];
        for (int i = 0; i < texts.length; i++) {
            values[i] = types[i] == boolean.class ? (Object) Boolean.valueOf(texts[i])
                    : types[i] == long.class ? (Object) Long.decode(texts[i].replace("L", ""))
                    : (Object) Integer.decode(texts[i]);
        }
        return method.invoke(machine, values);
    }

    private static Method methodOf(String name) throws NoSuchMethodException {
        for (Method method : RingMachine.class.getMethods()) {
            if (method.getName().equals(name)) {
                return method;
            }
        }
        throw new NoSuchMethodException(name);
    }

    private static void calls(Due due, List<String> lines) {
        TreeSet<String> want = new TreeSet<>();
        for (Method method : RingMachine.class.getDeclaredMethods()) {
            if (Modifier.isPublic(method.getModifiers())) {
                want.add(method.getName() + " takes " + method.getParameterCount());
            }
        }
        TreeSet<String> got = new TreeSet<>();
        for (String line : lines) {
            Matcher row = ROW.matcher(line);
            if (row.matches()) {
                String call = row.group(1);
                String inside = call.substring(call.indexOf('(') + 1, call.length() - 1);
                int taken = inside.isEmpty() ? 0 : inside.split(", ").length;
                got.add(call.substring(0, call.indexOf('(')) + " takes " + taken);
            }
        }
        due.same("the calls in README.md", got.toString(), want.toString());
    }

    private static void tests(Due due, List<String> lines) throws IOException {
        TreeSet<String> want;
        try (Stream<Path> files = Files.list(Path.of("src/test/java"))) {
            want = files.map(file -> file.getFileName().toString())
                    .filter(name -> name.endsWith("Test.java"))
                    .map(name -> name.replace(".java", ""))
                    .collect(Collectors.toCollection(TreeSet::new));
        }
        TreeSet<String> got = new TreeSet<>();
        for (String line : lines) {
            Matcher test = TEST.matcher(line.startsWith("| ") ? line : "");
            while (test.find()) {
                got.add(test.group());
            }
        }
        due.same("the tests in README.md", got.toString(), want.toString());
    }
}
