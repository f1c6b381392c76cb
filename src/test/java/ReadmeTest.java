import java.lang.reflect.Method;
import java.lang.reflect.Modifier;
import java.nio.file.Files;
import java.nio.file.Path;
import java.util.List;
import java.util.regex.Matcher;
import java.util.regex.Pattern;
import java.util.stream.Collectors;
import java.util.stream.Stream;

/** README.md tells no answer that the class doesn't give, and leaves out no call and no test. */
public final class ReadmeTest {
    private static final Path README = Path.of("README.md");
    private static final Path TESTS = Path.of("src/test/java");
    private static final Pattern WRITTEN = Pattern.compile("\"([^\"]*)\"\\.toCharArray\\(\\)\\) x\\.letter\\(c\\);");
    private static final Pattern CALL = Pattern.compile("x\\.(\\w+)\\(([^)]*)\\);\\s*// (-?\\d+):.*");
    private static final Pattern TEXT_TOLD = Pattern.compile("the TEXT is \"([^\"]*)\"");
    private static final String FIRST_LINE = "PricedCopies x = new PricedCopies();";

    private static int wrong = 0;

    public static void main(String[] args) throws Exception {
        String readme = Files.readString(README);
        example(readme);
        calls(readme);
        tests(readme);
        System.out.println(wrong == 0 ? "the readme is as the class is" : wrong + " faults of the readme");
        if (wrong != 0) System.exit(1);
    }

    private static void fault(String what) {
        wrong++;
        System.out.println(what);
    }

    /** A line that is of no known form is a fault, so that none is passed over. */
    private static void example(String readme) throws Exception {
        Matcher block = Pattern.compile("(?s)```java\n(.*?)```").matcher(readme);
        if (!block.find()) {
            fault("no example");
            return;
        }
        PricedCopies x = new PricedCopies();
        for (String line : block.group(1).split("\n")) {
            Matcher written = WRITTEN.matcher(line);
            Matcher call = CALL.matcher(line);
            if (written.find()) write(x, written.group(1));
            else if (call.matches()) answer(x, call, line);
            else if (!line.equals(FIRST_LINE)) fault("not understood: " + line);
        }
    }

    private static void write(PricedCopies x, String page) {
        for (char c : page.toCharArray()) if (x.letter(c) < 0) fault("refused: letter '" + c + "'");
    }

    private static void answer(PricedCopies x, Matcher call, String line) throws Exception {
        long got = ask(x, call.group(1), call.group(2));
        if (got != Long.parseLong(call.group(3))) fault(line + " (answered " + got + ")");
        Matcher told = TEXT_TOLD.matcher(line);
        if (told.find() && !told.group(1).equals(textOf(x))) fault(line + " (the TEXT is " + textOf(x) + ")");
    }

    private static long ask(PricedCopies x, String name, String told) throws Exception {
        String[] words = told.isEmpty() ? new String[0] : told.split(", ");
        for (Method m : PricedCopies.class.getMethods()) {
            if (!m.getName().equals(name) || m.getParameterCount() != words.length) continue;
            Object[] values = new Object[words.length];
            for (int i = 0; i < words.length; i++) values[i] = value(m.getParameterTypes()[i], words[i]);
            return ((Number) m.invoke(x, values)).longValue();
        }
        throw new IllegalArgumentException("no such call: " + name + "(" + told + ")");
    }

    private static Object value(Class<?> type, String word) {
        if (type == boolean.class) return Boolean.valueOf(word);
        return Integer.valueOf(word);
    }

    private static String textOf(PricedCopies x) {
        StringBuilder text = new StringBuilder();
        for (int i = 0; i < x.count(1); i++) text.append((char) ('a' + x.at(i)));
        return text.toString();
    }

    private static void calls(String readme) {
        for (Method m : PricedCopies.class.getDeclaredMethods()) {
            boolean named = Pattern.compile("(?m)^\\|.*`" + m.getName() + "\\(").matcher(readme).find();
            if (Modifier.isPublic(m.getModifiers()) && !named) fault("not in the table: " + m.getName());
        }
    }

    private static void tests(String readme) throws Exception {
        if (!readme.contains(".ci/run")) fault("not named: .ci/run");
        try (Stream<Path> files = Files.list(TESTS)) {
            List<String> names = files.map(Path::toString).sorted().collect(Collectors.toList());
            for (String name : names) if (!readme.contains(name)) fault("not named: " + name);
        }
    }
}
