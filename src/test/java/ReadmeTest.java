import java.io.IOException;
import java.nio.file.Files;
import java.nio.file.Path;
import java.util.ArrayList;
import java.util.List;
import java.util.Set;
import java.util.TreeSet;
import java.util.regex.MatchResult;
import java.util.regex.Matcher;
import java.util.regex.Pattern;
import java.util.stream.Collectors;
import java.util.stream.Stream;

/** What README.md tells is so: each row of its example, the calls that it names, and its table of tests. */
final class ReadmeTest {
    private static final Check CHECK = new Check("ReadmeTest");

    public static void main(String[] args) throws IOException {
        String readme = Files.readString(Path.of("README.md"));
        example(readme);
        calls(readme, Files.readString(Path.of("src/main/java/TrustedPause.java")));
        tests(readme);
        CHECK.end();
    }

    private static List<MatchResult> all(String pattern, String text) {
        return Pattern.compile(pattern, Pattern.MULTILINE).matcher(text).results().collect(Collectors.toList());
    }

    /** Rows "x.call(..);  // answer" or "answer: why", run on one new object. */
    private static void example(String readme) {
        List<String> rows = new ArrayList<>();
        for (MatchResult row : all("^x\\.(\\w+\\(.*\\)); +// ([^:\n]+)", readme)) {
            Matcher sign = Pattern.compile("'(.)'").matcher(row.group(1));
            String call = sign.replaceAll(found -> String.valueOf((int) found.group(1).charAt(0)));
            rows.add(call + " = " + row.group(2).strip());
        }
        CHECK.same("rows of the example", rows.size(), all("^x\\.", readme).size());
        CHECK.holds("an example", rows.size() > 0);
        new Script(CHECK).holds("README.md", rows.toArray(new String[0]));
    }

    private static void calls(String readme, String source) {
        Set<String> face = new TreeSet<>();
        for (MatchResult call : all("^    public (?:int|long) (\\w+)\\((.*)\\) \\{", source)) {
            face.add(call.group(1) + "(" + call.group(2).replaceAll("(?:int|boolean) ", "") + ")");
        }
        String table = readme.substring(readme.indexOf("| for | calls |"), readme.indexOf("\n\nQuestions"));
        Set<String> told = all("`([^`]+)`", table).stream().map(call -> call.group(1)).collect(Collectors.toCollection(TreeSet::new));
        CHECK.same("calls of the face", face.size(), 27);
        CHECK.holds("the calls are told as they are: " + told, told.equals(face));
        for (MatchResult constant : all("`([A-Z]+)` \\((-\\d)", readme)) {
            CHECK.holds(constant.group() + " is told as it is", source.contains(constant.group(1) + " = " + constant.group(2)));
        }
    }

    private static void tests(String readme) throws IOException {
        Set<String> told = all("^\\| (\\w+Test) \\|", readme).stream().map(row -> row.group(1)).collect(Collectors.toCollection(TreeSet::new));
        Set<String> there = new TreeSet<>();
        try (Stream<Path> files = Files.list(Path.of("src/test/java"))) {
            files.map(file -> file.getFileName().toString()).filter(name -> name.endsWith("Test.java"))
                .forEach(name -> there.add(name.replace(".java", "")));
        }
        CHECK.holds("the table of tests names " + there, told.equals(there));
    }
}
