import java.lang.reflect.Method;
import java.net.URL;
import java.net.URLClassLoader;
import java.nio.file.Files;
import java.nio.file.Path;
import java.util.Comparator;
import java.util.List;
import java.util.spi.ToolProvider;
import java.util.stream.Stream;

/**
 * STATUS 7 of promise 21. No system is known that fits on the TAPE and whose zeros 128 does not tell
 * apart; so the program is compiled once more with a lower limit in the place of 128.
 */
final class CloseTest {
    private static final Harness H = new Harness();
    private static final String LIMIT = "private static final int FINEST = 128;";
    private static final String CLOSE = "9999y-x2;9999z-y2;z2-9801x2+198x-1";

    public static void main(String[] args) throws Exception {
        Path file = Path.of(System.getProperty("project"), "src/main/java/RealSolver.java");
        String source = Files.readString(file);
        H.name("close zeros");
        H.due("the limit stands in the program", source.split(java.util.regex.Pattern.quote(LIMIT), -1).length, 2);
        H.due("with 71", answers(source.replace(LIMIT, LIMIT.replace("128", "71"))), List.of(8, -1, 7, 4, 0));
        H.due("with 72", answers(source.replace(LIMIT, LIMIT.replace("128", "72"))), List.of(8, 72, 0, 4, 0));
        H.due("with 128", answers(source), List.of(8, 72, 0, 4, 0));
        H.end();
    }

    /** What solve(), apart(), status(), real(), status() answer. */
    private static List<Integer> answers(String source) throws Exception {
        Path folder = Files.createTempDirectory("close");
        try {
            Path file = folder.resolve("RealSolver.java");
            Files.writeString(file, source);
            ToolProvider javac = ToolProvider.findFirst("javac").orElseThrow();
            H.due("compiles", javac.run(System.out, System.out, "-d", folder.toString(), file.toString()), 0);
            URL[] place = {folder.toUri().toURL()};
            try (URLClassLoader loader = new URLClassLoader(place, null)) {
                Class<?> type = loader.loadClass("RealSolver");
                Object solver = type.getConstructor().newInstance();
                type.getMethod("variables", int.class).invoke(solver, 3);
                feed(type, solver);
                return List.of(call(type, solver, "solve"), call(type, solver, "apart"),
                        call(type, solver, "status"), call(type, solver, "real"), call(type, solver, "status"));
            }
        } finally {
            try (Stream<Path> all = Files.walk(folder)) {
                all.sorted(Comparator.reverseOrder()).forEach(path -> path.toFile().delete());
            }
        }
    }

    private static int call(Class<?> type, Object solver, String name) throws Exception {
        return (Integer) type.getMethod(name).invoke(solver);
    }

    private static void feed(Class<?> type, Object solver) throws Exception {
        Method feed = type.getMethod("feed", int.class, int.class, int.class, int.class, int.class);
        for (int i = 0; i < CLOSE.length(); i += 20) {
            Object[] words = new Object[5];
            for (int w = 0; w < 5; w++) {
                int word = 0;
                for (int b = i + 4 * w; b < i + 4 * w + 4; b++) {
                    word = word << 8 | (b < CLOSE.length() ? CLOSE.charAt(b) : ' ');
                }
                words[w] = word;
            }
            feed.invoke(solver, words);
        }
    }
}
