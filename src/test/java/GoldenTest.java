import java.nio.charset.StandardCharsets;
import java.nio.file.Files;
import java.nio.file.Path;
import java.util.ArrayList;
import java.util.List;

/**
 * All answers for systems of many kinds, compared with src/test/data/golden.txt. That was computed
 * by other means: the bases by Singular, all else from them with fractions and 260 digits.
 */
final class GoldenTest {
    private static final Harness H = new Harness();
    private static final int[] FINENESS = {0, 3, 20, 128};

    public static void main(String[] args) throws Exception {
        Path file = Path.of(System.getProperty("project"), "src/test/data/golden.txt");
        List<String> block = new ArrayList<>();
        for (String line : Files.readAllLines(file, StandardCharsets.US_ASCII)) {
            if (line.equals("end")) {
                compare(block);
                block.clear();
            } else {
                block.add(line);
            }
        }
        H.end();
    }

    private static void compare(List<String> due) {
        String[] parts = due.get(0).substring(4).split("\\|", -1);
        H.name(due.get(0));
        List<String> got = answers(parts);
        H.due("lines", got.size(), due.size() - 1);
        for (int i = 1; i < due.size() && i <= got.size(); i++) {
            H.due("line " + i, got.get(i - 1), due.get(i));
        }
    }

    private static List<String> answers(String[] parts) {
        RealSolver s = H.solver;
        int n = Integer.parseInt(parts[0]);
        List<String> out = new ArrayList<>();
        out.add("solve " + H.solve(n, parts[1]) + " " + s.status() + " " + s.place());
        int count = s.basis();
        for (int i = 0; i < count; i++) {
            out.add("poly " + H.written(s.poly(i)));
        }
        int stairs = s.stairs();
        if (stairs >= 0) {
            zeros(s, n, stairs, out);
        }
        for (int i = 2; i < parts.length; i++) {
            out.add("rest " + H.rest(parts[i]));
            if (stairs >= 0) {
                StringBuilder signs = new StringBuilder("signs");
                for (int j = 0; j < s.real(); j++) {
                    signs.append(' ').append(H.sign(parts[i], j));
                }
                out.add(signs.toString());
            }
        }
        return out;
    }

    private static void zeros(RealSolver s, int n, int stairs, List<String> out) {
        for (int i = 0; i < stairs; i++) {
            out.add("stair " + H.written(s.stair(i)));
        }
        out.add("form " + s.form());
        for (int v = 0; v <= n; v++) {
            out.add("elim " + v + " " + H.written(s.eliminant(v)));
        }
        for (int v = 0; v <= n; v++) {
            out.add("frac " + v + " " + H.written(s.fraction(v)));
        }
        out.add("real " + s.real());
        for (int j = 0; j < s.real(); j++) {
            StringBuilder line = new StringBuilder("zero " + j + " " + s.multiplicity(j));
            for (int v = 1; v <= n; v++) {
                line.append(' ').append(s.rank(j, v));
            }
            for (int k : FINENESS) {
                for (int v = 1; v <= n; v++) {
                    line.append(' ').append(H.written(s.floor(j, v, k)));
                    line.append(s.exact(j, v, k) == 1 ? "!" : "");
                }
            }
            out.add(line.toString());
        }
        int apart = s.apart();
        out.add("apart " + apart + " " + s.status());
    }
}
