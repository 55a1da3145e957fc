import java.nio.charset.StandardCharsets;
import java.nio.file.Files;
import java.nio.file.Path;
import java.util.ArrayList;
import java.util.List;

/**
 * All answers for systems of many kinds, compared with src/test/data/golden.txt. That was computed
 * by other means: the bases by Singular, all else from them with fractions and 260 digits.
 */
final class GoldenTest {
    private static final Harness H = new Harness();
    private static final int[] FINENESS = {0, 3, 20, 128};

    public static void main(String[] args) throws Exception {
        Path file = Path.of(System.getProperty("project"), "src/test/data/golden.txt");
        List<String> block = new ArrayList<>();
        for (String line : Files.readAllLines(file, StandardCharsets.US_ASCII)) {
            if (line.equals("end")) {
                compare(block);
                block.clear();
            } else {
                block.add(line);
            }
        }
        H.end();
    }

    private static void compare(List<String> due) {
        String[] parts = due.get(0).substring(4).split("\\|", -1);
        H.name(due.get(0));
        List<String> got = answers(parts);
        H.due("lines", got.size(), due.size() - 1);
        for (int i = 1; i < due.size() && i <= got.size(); i++) {
            H.due("line " + i, got.get(i - 1), due.get(i));
        }
    }

    private static List<String> answers(String[] parts) {
        String[] lines = {"variables " + parts[0], "tape " + parts[1], "solve"};
        int n = Integer.parseInt(parts[0]);
        List<String> out = new ArrayList<>();
        Run run = new Run(lines[0], lines[1]);
        out.add("solve " + run.play("solve") + " " + run.status() + " " + run.place());
        int count = run.call("basis");
        for (int i = 0; i < count; i++) {
            out.add("poly " + Run.longText("poly " + i, lines));
        }
        int stairs = run.call("stairs");
        int real = run.call("real");
        if (stairs >= 0) {
            zeros(run, n, stairs, lines, out);
        }
        for (int i = 2; i < parts.length; i++) {
            String[] withTape = {lines[0], lines[1], lines[2], "tape " + parts[i]};
            out.add("rest " + Run.longText("rest", withTape));
            if (stairs >= 0) {
                out.add(signs(parts[i], real, lines));
            }
        }
        return out;
    }

    private static String signs(String polynomial, int real, String[] lines) {
        StringBuilder signs = new StringBuilder("signs");
        Run run = new Run(lines);
        for (int j = 0; j < real; j++) {
            run.tape(polynomial);
            signs.append(' ').append(run.call("sign", j));
        }
        return signs.toString();
    }

    private static void zeros(Run run, int n, int stairs, String[] lines, List<String> out) {
        for (int i = 0; i < stairs; i++) {
            out.add("stair " + run.written("stair " + i));
        }
        out.add("form " + run.call("form"));
        for (int v = 0; v <= n; v++) {
            out.add("elim " + v + " " + Run.longText("eliminant " + v, lines));
        }
        for (int v = 0; v <= n; v++) {
            out.add("frac " + v + " " + Run.longText("fraction " + v, lines));
        }
        int real = run.call("real");
        out.add("real " + real);
        for (int j = 0; j < real; j++) {
            out.add(zero(j, n, lines));
        }
        int apart = run.call("apart");
        out.add("apart " + apart + " " + run.status());
    }

    private static String zero(int j, int n, String[] lines) {
        Run run = new Run(lines);
        StringBuilder line = new StringBuilder("zero " + j + " " + run.call("multiplicity", j));
        for (int v = 1; v <= n; v++) {
            line.append(' ').append(run.call("rank", j, v));
        }
        for (int k : FINENESS) {
            for (int v = 1; v <= n; v++) {
                line.append(' ').append(run.written("floor " + j + " " + v + " " + k));
                line.append(run.call("exact", j, v, k) == 1 ? "!" : "");
            }
        }
        return line.toString();
    }
}
