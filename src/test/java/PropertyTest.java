import java.math.BigInteger;
import java.util.HashMap;
import java.util.Map;
import java.util.Random;

/** What must hold of every system, whatever its answers are. */
final class PropertyTest {
    private static final Harness H = new Harness();
    private static final Random RANDOM = new Random(7);
    private static final String[][] POWERS = {
        {"", "x", "x2", "x3", "x4", "x5", "x6"},
        {"", "x", "y", "x2", "xy", "y2", "x3", "x2y", "xy2", "y3"},
        {"", "x", "y", "z", "x2", "xy", "y2", "xz", "yz", "z2"}};

    /** The calls that solve a system, another one ahead of it: nothing of that may be left. */
    private static String[] lines = {"variables 2", "tape 0", "solve", "variables 2", "tape 0", "solve"};
    private static final Map<String, BigInteger> FLOORS = new HashMap<>();

    public static void main(String[] args) {
        for (int i = 0; i < 1500; i++) {
            int n = 1 + RANDOM.nextInt(3);
            String[] system = system(n);
            String text = String.join(";", system);
            lines = new String[] {lines[3], lines[4], "solve", "variables " + n, "tape " + text, "solve"};
            FLOORS.clear();
            H.name(n + " " + text);
            int zeros = new Run(lines).call("zeros");
            ideal(system);
            if (zeros > 0) {
                counts(zeros);
                boxes(n);
                signs(system);
            }
        }
        H.end();
    }

    private static String[] system(int n) {
        String[] list = new String[Math.min(5, Math.max(1, n - 1 + RANDOM.nextInt(3)))];
        int[] sizes = {1, 2, 5, 30, 9999};
        int most = sizes[RANDOM.nextInt(sizes.length)];
        int terms = 1 + RANDOM.nextInt(6);
        for (int i = 0; i < list.length; i++) {
            StringBuilder text = new StringBuilder();
            for (int t = 0; t <= terms; t++) {
                String[] powers = POWERS[n - 1];
                text.append(RANDOM.nextBoolean() ? '+' : '-').append(1 + RANDOM.nextInt(most));
                text.append(powers[RANDOM.nextInt(powers.length)]);
            }
            list[i] = text.toString();
        }
        return list;
    }

    private static String rest(Run run, String polynomial) {
        run.tape(polynomial);
        return run.written("rest");
    }

    private static void ideal(String[] system) {
        Run run = new Run(lines);
        for (String polynomial : system) {
            H.due("rest of one of the system", rest(run, polynomial), "0");
        }
        int stairs = run.call("stairs");
        for (int i = 0; i < stairs; i++) {
            String stair = run.written("stair " + i);
            H.due("rest of a stair", rest(run, stair), stair);
        }
    }

    private static void counts(int zeros) {
        Run run = new Run(lines);
        int real = run.call("real");
        int stairs = run.call("stairs");
        int sum = 0;
        for (int j = 0; j < real; j++) {
            sum += run.call("multiplicity", j);
        }
        H.due("real zeros at most zeros", real <= zeros, true);
        H.due("zeros that are not real come in pairs", (zeros - real) % 2, 0);
        H.due("zeros at most stairs", zeros <= stairs, true);
        H.due("multiplicities at most stairs", sum + zeros - real <= stairs, true);
        H.due("multiplicities are even in all beside the real ones", (stairs - sum) % 2, 0);
    }

    /** A run has not calls enough to read many floors: each is found by a new object, and kept. */
    private static BigInteger floor(int j, int v, int k) {
        return FLOORS.computeIfAbsent("floor " + j + " " + v + " " + k,
                call -> new BigInteger(new Run(lines).written(call)));
    }

    private static void boxes(int n) {
        int real = new Run(lines).call("real");
        int apart = new Run(lines).call("apart");
        for (int j = 0; j < real; j++) {
            for (int v = 1; v <= n; v++) {
                Run run = new Run(lines);
                int k = RANDOM.nextInt(128);
                BigInteger coarse = floor(j, v, k);
                H.due("a box in a box", floor(j, v, k + 1).shiftRight(1), coarse);
                H.due("exact stays so", run.call("exact", j, v, k) <= run.call("exact", j, v, k + 1), true);
                besideItsFloor(run, j, v);
                for (int i = 0; i < j; i++) {
                    int order = Integer.compare(run.call("rank", i, v), run.call("rank", j, v));
                    int found = floor(i, v, 128).compareTo(floor(j, v, 128));
                    H.due("ranks go with floors", order == found || found == 0, true);
                }
            }
        }
        if (apart > 0) {
            H.due("unlike boxes at apart", alike(n, real, apart), false);
            H.due("like boxes ahead of it", alike(n, real, apart - 1), true);
        }
    }

    private static void besideItsFloor(Run run, int j, int v) {
        String variable = "_xyz".substring(v, v + 1);
        BigInteger small = floor(j, v, 3);
        if (small.abs().bitLength() < 13 && !small.equals(BigInteger.ZERO)) {
            String minus = small.signum() < 0 ? "+" + small.negate() : "-" + small;
            int due = run.call("exact", j, v, 3) == 1 ? 1 : 2;
            run.tape("8" + variable + minus);
            H.due("the sign of 8 x less its floor", run.call("sign", j), due);
        }
    }

    private static boolean alike(int n, int real, int k) {
        for (int i = 0; i < real; i++) {
            for (int j = 0; j < i; j++) {
                boolean same = true;
                for (int v = 1; v <= n; v++) {
                    same = same && floor(i, v, k).equals(floor(j, v, k));
                }
                if (same) {
                    return true;
                }
            }
        }
        return false;
    }

    private static int sign(Run run, String polynomial, int j) {
        run.tape(polynomial);
        return run.call("sign", j);
    }

    private static void signs(String[] system) {
        Run run = new Run(lines);
        int real = run.call("real");
        for (int j = 0; j < real; j++) {
            for (String polynomial : system) {
                H.due("the system is 0 at its zeros", sign(run, polynomial, j), 1);
            }
            H.due("what is above 0", sign(run, "x2+1", j), 2);
        }
    }
}
