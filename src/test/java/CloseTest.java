import java.lang.reflect.Method;
import java.net.URL;
import java.net.URLClassLoader;
import java.nio.file.Files;
import java.nio.file.Path;
import java.util.Comparator;
import java.util.List;
import java.util.spi.ToolProvider;
import java.util.stream.Stream;

/**
 * STATUS 7 of promise 21. No system is known that fits on the TAPE and whose zeros 128 does not tell
 * apart; so the program is compiled once more with a lower limit in the place of 128.
 */
final class CloseTest {
    private static final Harness H = new Harness();
    private static final String CLOSE = "9999y-x2;9999z-y2;z2-9801x2+198x-1";

    public static void main(String[] args) throws Exception {
        Path file = Path.of(System.getProperty("project"), "src/main/java/RealSolver.java");
        String source = Files.readString(file);
        H.name("close zeros");
        // What solve, real, stair 7 answer; then apart and its status; and then what is as before.
        List<Integer> refused = List.of(8, 4, 3, -1, 7, 1, 4, 0);
        List<Integer> found = List.of(8, 4, 3, 72, 0, 1, 4, 0);
        H.due("with 71", answers(withLimit(source, 71)), refused);
        H.due("with 72", answers(withLimit(source, 72)), found);
        H.due("with 73", answers(withLimit(source, 73)), found);
        H.due("with 128", answers(source), found);
        H.end();
    }

    private static String withLimit(String source, int limit) {
        String changed = source.replaceAll("\\b128\\b", String.valueOf(limit));
        H.due("the limit stands in the program", changed.equals(source), false);
        return changed;
    }

    private static List<Integer> answers(String source) throws Exception {
        Path folder = Files.createTempDirectory("close");
        try {
            Path file = folder.resolve("RealSolver.java");
            Files.writeString(file, source);
            ToolProvider javac = ToolProvider.findFirst("javac").orElseThrow();
            H.due("compiles", javac.run(System.out, System.out, "-d", folder.toString(), file.toString()), 0);
            URL[] place = {folder.toUri().toURL()};
            try (URLClassLoader loader = new URLClassLoader(place, null)) {
                Class<?> type = loader.loadClass("RealSolver");
                Object solver = type.getConstructor().newInstance();
                type.getMethod("variables", int.class).invoke(solver, 3);
                feed(type, solver);
                return ask(type, solver);
            }
        } finally {
            try (Stream<Path> all = Files.walk(folder)) {
                all.sorted(Comparator.reverseOrder()).forEach(path -> path.toFile().delete());
            }
        }
    }

    private static List<Integer> ask(Class<?> type, Object solver) throws Exception {
        int zeros = call(type, solver, "solve");
        int real = call(type, solver, "real");
        int length = (Integer) type.getMethod("stair", int.class).invoke(solver, 7);
        int before = call(type, solver, "digest");
        int apart = call(type, solver, "apart");
        int status = call(type, solver, "status");
        boolean same = call(type, solver, "digest") == before && call(type, solver, "length") == length
                && call(type, solver, "place") == -1 && call(type, solver, "status") == status;
        return List.of(zeros, real, length, apart, status, same ? 1 : 0, call(type, solver, "real"),
                call(type, solver, "status"));
    }

    private static int call(Class<?> type, Object solver, String name) throws Exception {
        return (Integer) type.getMethod(name).invoke(solver);
    }

    private static void feed(Class<?> type, Object solver) throws Exception {
        Method feed = type.getMethod("feed", int.class, int.class, int.class, int.class, int.class);
        for (int i = 0; i < CLOSE.length(); i += 20) {
            Object[] words = new Object[5];
            for (int w = 0; w < 5; w++) {
                int word = 0;
                for (int b = i + 4 * w; b < i + 4 * w + 4; b++) {
                    word = word << 8 | (b < CLOSE.length() ? CLOSE.charAt(b) : ' ');
                }
                words[w] = word;
            }
            feed.invoke(solver, words);
        }
    }
}
