import java.io.IOException;
import java.lang.reflect.Method;
import java.lang.reflect.Modifier;
import java.nio.file.Files;
import java.nio.file.Path;
import java.util.ArrayList;
import java.util.Comparator;
import java.util.List;
import java.util.regex.Matcher;
import java.util.regex.Pattern;
import java.util.stream.Stream;

/** README.md: its example, compiled and run by its own commands, prints what it says; it names every call. */
public final class ReadmeTest {
    private static final Path README = Path.of("README.md");

    private static final Due due = new Due("ReadmeTest");

    public static void main(String[] args) throws Exception {
        String readme = Files.readString(README);
        Path place = Files.createTempDirectory("readme");
        try {
            exampleIsTrue(blockOf(readme, "java"), blockOf(readme, "sh"), place);
        } finally {
            remove(place);
        }
        everyCallIsNamed(readme);
        due.answer("it says how the tests are run", readme.contains("\n    .ci/run\n"), true);
        due.close();
    }

    private static String blockOf(String readme, String kind) {
        Matcher block = Pattern.compile("^```" + kind + "\n(.*?)^```$", Pattern.MULTILINE | Pattern.DOTALL)
                .matcher(readme);
        boolean isThere = block.find();
        due.answer("a block of " + kind, isThere, true);
        return isThere ? block.group(1) : "";
    }

    private static void exampleIsTrue(String example, String commands, Path place) throws Exception {
        Files.writeString(place.resolve("Example.java"), example);
        List<String> printed = List.of();
        for (String command : commands.lines().toList()) {
            printed = run(command, place);
        }
        List<String> told = toldIn(example);
        due.answer("the example prints something", told.size() > 0, true);
        due.answer("each line that prints tells what", told.size(), example.split("println\\(").length - 1);
        due.answer("what the example prints", printed, told);
    }

    private static List<String> toldIn(String example) {
        List<String> told = new ArrayList<>();
        Matcher line = Pattern.compile("println\\(.*\\); +// (.*)$", Pattern.MULTILINE).matcher(example);
        while (line.find()) {
            told.add(line.group(1));
        }
        return told;
    }

    /** Runs a command of README.md from here, but for what it makes and the example, which lie elsewhere. */
    private static List<String> run(String command, Path place) throws Exception {
        List<String> words = new ArrayList<>();
        for (String word : command.split(" ")) {
            boolean isElsewhere = word.equals("build") || word.equals("Example.java");
            words.add(isElsewhere ? place.resolve(word).toString() : word);
        }
        Path output = place.resolve("output");
        Process process = new ProcessBuilder(words).redirectError(ProcessBuilder.Redirect.INHERIT)
                .redirectOutput(output.toFile()).start();
        due.answer(command, process.waitFor(), 0);
        return Files.readAllLines(output);
    }

    private static void remove(Path place) throws IOException {
        try (Stream<Path> all = Files.walk(place)) {
            for (Path each : all.sorted(Comparator.reverseOrder()).toList()) {
                Files.delete(each);
            }
        }
    }

    private static void everyCallIsNamed(String readme) {
        for (Method method : Spanledger.class.getDeclaredMethods()) {
            if (Modifier.isPublic(method.getModifiers())) {
                due.answer("it names " + method.getName(), readme.contains("`" + method.getName() + "`"), true);
            }
        }
    }
}
