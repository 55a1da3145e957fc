import java.nio.charset.StandardCharsets;
import java.nio.file.Files;
import java.nio.file.Path;
import java.util.List;
import java.util.regex.Matcher;
import java.util.regex.Pattern;
import java.util.stream.Stream;

/** README.md: its example answers what it says, and it names every call and every test. */
final class ReadmeTest {
    private static final Harness H = new Harness();

    public static void main(String[] args) throws Exception {
        Path project = Path.of(System.getProperty("project"));
        String readme = Files.readString(project.resolve("README.md"), StandardCharsets.US_ASCII);
        H.name("README.md");
        example(readme);
        calls(readme);
        tests(readme, project.resolve("src/test/java"));
        H.end();
    }

    /** Lines like "s.poly(0);  // 5: the text is now .." with the answer first, and perhaps the TEXT. */
    private static void example(String readme) {
        Matcher line = Pattern.compile("(?m)^s\\.(\\w+)\\(([^)]*)\\); +// (-?\\d+)(.*)$").matcher(readme);
        Pattern text = Pattern.compile("the text is (?:now )?\"(.*?)\"");
        Run run = new Run();
        int found = 0;
        while (line.find()) {
            String[] words = line.group(2).isEmpty() ? new String[0] : line.group(2).split(", ");
            int[] numbers = Stream.of(words).mapToInt(Integer::decode).toArray();
            H.due(line.group(), run.call(line.group(1), numbers), line.group(3));
            Matcher written = text.matcher(line.group(4));
            if (written.find()) {
                H.due(line.group(), run.text(), written.group(1));
            }
            found++;
        }
        H.due("lines of the example", found, readme.split("\ns\\.", -1).length - 1);
    }

    private static void calls(String readme) {
        for (java.lang.reflect.Method method : RealSolver.class.getMethods()) {
            if (method.getDeclaringClass() == RealSolver.class) {
                H.due(method.getName() + " in the table", count(readme, "(?m)^\\| `" + method.getName() + "\\("), 1);
            }
        }
    }

    private static void tests(String readme, Path folder) throws Exception {
        try (Stream<Path> files = Files.list(folder)) {
            List<String> names = files.map(file -> file.getFileName().toString()).sorted().toList();
            for (String name : names) {
                String test = name.replace(".java", "");
                H.due(test + " is named", count(readme, "`" + test + "`") > 0, true);
            }
        }
    }

    private static int count(String text, String pattern) {
        return (int) Pattern.compile(pattern).matcher(text).results().count();
    }
}
