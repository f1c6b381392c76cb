import java.io.IOException;
import java.nio.file.Files;
import java.nio.file.Path;
import java.util.ArrayList;
import java.util.List;
import java.util.Map;
import java.util.Set;
import java.util.TreeMap;
import java.util.TreeSet;
import java.util.concurrent.TimeUnit;
import java.util.regex.Matcher;
import java.util.regex.Pattern;
import javax.tools.ToolProvider;

/**
 * Breaks the class as each entry of mutants.txt says, and looks whether the tests of the sentences that
 * the entry names fail then. Run from the project's folder: java src/test/mutants/Mutants.java [ID ..]
 */
public final class Mutants {
    private static final Path CLASS = Path.of("src/main/java/PricedCopies.java");
    private static final Path TESTS = Path.of("src/test/java");
    private static final Path SUPPORT = Path.of("src/test/support/Due.java");
    private static final Path TABLE = Path.of("src/test/mutants/mutants.txt");
    private static final Pattern SENTENCE = Pattern.compile("Due\\.sentence\\(\"([^\"]+)\"");
    private static final int SECONDS = 60;

    private record Mutant(int line, List<String> ids, String from, String to) {
    }

    public static void main(String[] args) throws Exception {
        Set<String> asked = Set.of(args);
        Map<String, String> testOf = sentences();
        Path out = Files.createTempDirectory("mutants");
        Path tests = out.resolve("tests");
        compile(tests, List.of(CLASS, SUPPORT), testFiles());
        Files.delete(tests.resolve("PricedCopies.class"));
        List<Mutant> mutants = new ArrayList<>();
        for (Mutant m : table()) {
            if (asked.isEmpty() || m.ids.stream().anyMatch(asked::contains)) mutants.add(m);
        }
        List<String> faults = mutants.parallelStream().flatMap(m -> run(m, out, tests, testOf).stream()).sorted().toList();
        Set<String> untouched = new TreeSet<>(asked.isEmpty() ? testOf.keySet() : asked);
        for (Mutant m : mutants) untouched.removeAll(m.ids);
        faults.forEach(System.out::println);
        for (String id : untouched) System.out.println("no mutant breaks " + id);
        System.out.println(mutants.size() + " mutants, " + faults.size() + " faults, " + untouched.size() + " sentences without");
        if (!faults.isEmpty() || !untouched.isEmpty()) System.exit(1);
    }

    private static List<Path> testFiles() throws IOException {
        try (var files = Files.list(TESTS)) {
            return files.filter(f -> f.toString().endsWith(".java")).sorted().toList();
        }
    }

    /** Which test has which sentence. */
    private static Map<String, String> sentences() throws IOException {
        Map<String, String> testOf = new TreeMap<>();
        for (Path file : testFiles()) {
            Matcher m = SENTENCE.matcher(Files.readString(file));
            String name = file.getFileName().toString().replace(".java", "");
            while (m.find()) {
                if (testOf.put(m.group(1), name) != null) throw new IllegalStateException(m.group(1) + " stands twice");
            }
        }
        return testOf;
    }

    /** An entry: a line "= ID ..", lines "- " of what stands in the class, lines "+ " of what comes instead. */
    private static List<Mutant> table() throws IOException {
        List<Mutant> found = new ArrayList<>();
        List<String> lines = new ArrayList<>(Files.readAllLines(TABLE));
        for (int i = 0; i < lines.size(); i++) {
            if (!lines.get(i).startsWith("= ")) continue;
            StringBuilder from = new StringBuilder();
            StringBuilder to = new StringBuilder();
            int line = i + 1;
            List<String> ids = List.of(lines.get(i).substring(2).trim().split(" +"));
            while (i + 1 < lines.size() && lines.get(i + 1).matches("[-+]( .*)?")) {
                i++;
                StringBuilder side = lines.get(i).charAt(0) == '-' ? from : to;
                side.append(lines.get(i).substring(1).trim()).append(' ');
            }
            found.add(new Mutant(line, ids, from.toString().trim(), to.toString().trim()));
        }
        return found;
    }

    private static List<String> run(Mutant m, Path out, Path tests, Map<String, String> testOf) {
        String where = "mutants.txt:" + m.line + " " + m.ids + ": ";
        try {
            String source = Files.readString(CLASS);
            Pattern from = Pattern.compile(Pattern.quote(m.from).replaceAll(" ", "\\\\E\\\\s+\\\\Q"));
            Matcher place = from.matcher(source);
            if (!place.find()) return List.of(where + "not found: " + m.from);
            int start = place.start();
            int end = place.end();
            if (place.find()) return List.of(where + "stands twice: " + m.from);
            Path dir = Files.createDirectory(out.resolve("m" + m.line));
            Path file = dir.resolve("PricedCopies.java");
            Files.writeString(file, source.substring(0, start) + m.to + source.substring(end));
            compile(dir, List.of(file), List.of());
            List<String> faults = new ArrayList<>();
            for (String id : m.ids) {
                if (!testOf.containsKey(id)) faults.add(where + "no such sentence: " + id);
                else if (!breaks(id, dir, tests, testOf.get(id))) faults.add(where + "lived through " + id);
            }
            return faults;
        } catch (IOException | InterruptedException | IllegalStateException e) {
            return List.of(where + e.getMessage());
        }
    }

    private static void compile(Path out, List<Path> files, List<Path> more) throws IOException {
        Files.createDirectories(out);
        List<String> args = new ArrayList<>(List.of("--release", "17", "-encoding", "UTF-8", "-d", out.toString()));
        for (Path file : files) args.add(file.toString());
        for (Path file : more) args.add(file.toString());
        int code = ToolProvider.getSystemJavaCompiler().run(null, null, null, args.toArray(new String[0]));
        if (code != 0) throw new IllegalStateException("does not compile");
    }

    private static boolean breaks(String id, Path mutant, Path tests, String test) throws IOException, InterruptedException {
        Path printed = mutant.resolve(test + ".txt");
        if (!Files.exists(printed)) {
            Process p = new ProcessBuilder("java", "-cp", mutant + ":" + tests, test)
                .redirectErrorStream(true).redirectOutput(printed.toFile()).start();
            if (!p.waitFor(SECONDS, TimeUnit.SECONDS)) {
                p.destroyForcibly();
                return true;
            }
        }
        for (String line : Files.readAllLines(printed)) {
            if (line.startsWith("broken: ") && List.of(line.substring(8).split(" ")).contains(id)) return true;
        }
        return false;
    }
}
