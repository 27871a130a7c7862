import java.io.IOException;
import java.lang.reflect.Method;
import java.nio.file.Files;
import java.nio.file.Path;
import java.util.ArrayList;
import java.util.Comparator;
import java.util.List;
import java.util.Set;
import java.util.TreeSet;
import java.util.regex.Matcher;
import java.util.regex.Pattern;
import java.util.stream.Stream;

/** What README.md says is so: its example answers what its comments say, its commands run. */
public final class ReadmeTest {
    private static final Due due = new Due("ReadmeTest");
    private static final String MAKING = "EditedScanner scanner = new EditedScanner();";
    private static final Pattern CALL =
        Pattern.compile("scanner\\.(\\w+)\\(([^)]*)\\);\\s+// (true|false|-?\\d+)(: .*)?");
    private static final String ALL_TESTS = ".ci/run";

    public static void main(String[] args) throws Exception {
        List<String> readme = Files.readAllLines(Path.of("README.md"));
        theExampleAnswersWhatItsCommentsSay(readme);
        everyCallOfTheFaceIsTold(readme);
        theCommandsRun(readme);
        theTestsNamedAreThoseThereAre(readme);
        due.end();
    }

    private static void theExampleAnswersWhatItsCommentsSay(List<String> readme) throws Exception {
        List<List<String>> examples = blocks(readme, "java");
        due.is("examples", examples.size(), 1);
        List<String> example = examples.get(0);
        due.is("the example begins with: " + MAKING, example.get(0).equals(MAKING), true);
        EditedScanner scanner = new EditedScanner();
        for (String line : example.subList(1, example.size())) {
            if (!line.isEmpty()) {
                answers(scanner, line);
            }
        }
    }

    private static void answers(EditedScanner scanner, String line) throws Exception {
        Matcher call = CALL.matcher(line);
        due.is("a call with its answer: " + line, call.matches(), true);
        if (call.matches()) {
            String got = String.valueOf(ask(scanner, call.group(1), call.group(2)));
            due.is("that " + got + " is the answer of " + line, got.equals(call.group(3)), true);
        }
    }

    private static Object ask(EditedScanner scanner, String name, String list) throws Exception {
        String[] words = list.isEmpty() ? new String[0] : list.split(", ");
        Method method = publicMethod(name);
        Class<?>[] types = method.getParameterTypes();
        Object[] arguments = new Object[words.length];
        for (int i = 0; i < words.length; i++) {
            boolean isLong = i < types.length && types[i] == long.class;
            arguments[i] = number(words[i], isLong);
        }
        return method.invoke(scanner, arguments);
    }

    private static Object number(String word, boolean isLong) {
        if (isLong) {
            return Long.decode(word);
        }
        return Integer.decode(word);
    }

    private static Method publicMethod(String name) throws NoSuchMethodException {
        for (Method method : EditedScanner.class.getMethods()) {
            if (method.getName().equals(name)) {
                return method;
            }
        }
        throw new NoSuchMethodException(name);
    }

    private static void everyCallOfTheFaceIsTold(List<String> readme) {
        for (Method method : EditedScanner.class.getMethods()) {
            if (method.getDeclaringClass() == EditedScanner.class) {
                String row = "| `" + method.getName() + "(";
                due.is(row, readme.stream().anyMatch(line -> line.startsWith(row)), true);
            }
        }
    }

    private static void theCommandsRun(List<String> readme) throws Exception {
        List<List<String>> commands = blocks(readme, "sh");
        due.is("blocks of commands", commands.size(), 2);
        // This test is run by that command, so that it cannot run it.
        due.is(ALL_TESTS, commands.get(0).equals(List.of(ALL_TESTS)), true);
        due.is(ALL_TESTS + " can be run", Files.isExecutable(Path.of(ALL_TESTS)), true);
        run(commands.get(1));
    }

    /** In a folder of its own, so that nothing is left in the project's. */
    private static void run(List<String> commands) throws Exception {
        Path folder = Files.createTempDirectory("readme");
        try {
            Files.createSymbolicLink(folder.resolve("src"), Path.of("src").toAbsolutePath());
            Process process = new ProcessBuilder("bash", "-e", "-c", String.join("\n", commands))
                .directory(folder.toFile()).redirectError(ProcessBuilder.Redirect.INHERIT).start();
            String printed = new String(process.getInputStream().readAllBytes());
            due.is(commands + " ended with exit code", process.waitFor(), 0);
            due.is(commands + " printed nothing, not: " + printed, printed.isEmpty(), true);
        } finally {
            delete(folder);
        }
    }

    private static void delete(Path folder) throws IOException {
        try (Stream<Path> paths = Files.walk(folder)) {
            for (Path path : paths.sorted(Comparator.reverseOrder()).toList()) {
                Files.delete(path);
            }
        }
    }

    private static void theTestsNamedAreThoseThereAre(List<String> readme) throws IOException {
        Set<String> named = new TreeSet<>();
        Matcher names = Pattern.compile("`(\\w+Test)`").matcher(String.join("\n", readme));
        while (names.find()) {
            named.add(names.group(1));
        }
        Set<String> there = new TreeSet<>();
        try (Stream<Path> files = Files.list(Path.of("src/test/java"))) {
            files.map(file -> file.getFileName().toString())
                .filter(name -> name.endsWith("Test.java"))
                .forEach(name -> there.add(name.substring(0, name.length() - ".java".length())));
        }
        due.is("named are " + named + ", there are " + there, named.equals(there), true);
    }

    /** What stands between lines of three backquotes, the first one with a language behind it. */
    private static List<List<String>> blocks(List<String> readme, String language) {
        List<List<String>> found = new ArrayList<>();
        List<String> block = null;
        for (String line : readme) {
            if (line.equals("```" + language)) {
                block = new ArrayList<>();
                found.add(block);
            } else if (line.equals("```")) {
                block = null;
            } else if (block != null) {
                block.add(line);
            }
        }
        return found;
    }
}
