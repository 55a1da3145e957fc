import java.math.BigInteger;
import java.util.Random;

/** What must hold of every system, whatever its answers are. */
final class PropertyTest {
    private static final Harness H = new Harness();
    private static final Random RANDOM = new Random(7);
    private static final String[][] POWERS = {
        {"", "x", "x2", "x3", "x4", "x5", "x6"},
        {"", "x", "y", "x2", "xy", "y2", "x3", "x2y", "xy2", "y3"},
        {"", "x", "y", "z", "x2", "xy", "y2", "xz", "yz", "z2"}};

    public static void main(String[] args) {
        for (int i = 0; i < 1500; i++) {
            if (i % 5 == 0) {
                H.fresh("");
            }
            int n = 1 + RANDOM.nextInt(3);
            String[] system = system(n);
            H.name(n + " " + String.join(";", system));
            int zeros = H.solve(n, String.join(";", system));
            ideal(system);
            if (zeros > 0) {
                counts(zeros);
                boxes(n);
                signs(system);
            }
        }
        H.end();
    }

    private static String[] system(int n) {
        String[] list = new String[Math.min(5, Math.max(1, n - 1 + RANDOM.nextInt(3)))];
        int[] sizes = {1, 2, 5, 30, 9999};
        int most = sizes[RANDOM.nextInt(sizes.length)];
        int terms = 1 + RANDOM.nextInt(6);
        for (int i = 0; i < list.length; i++) {
            StringBuilder text = new StringBuilder();
            for (int t = 0; t <= terms; t++) {
                String[] powers = POWERS[n - 1];
                text.append(RANDOM.nextBoolean() ? '+' : '-').append(1 + RANDOM.nextInt(most));
                text.append(powers[RANDOM.nextInt(powers.length)]);
            }
            list[i] = text.toString();
        }
        return list;
    }

    private static void ideal(String[] system) {
        RealSolver s = H.solver;
        for (String polynomial : system) {
            H.due("rest of one of the system", H.rest(polynomial), "0");
        }
        for (int i = 0; i < s.stairs(); i++) {
            String stair = H.written(s.stair(i));
            H.due("rest of a stair", H.rest(stair), stair);
        }
    }

    private static void counts(int zeros) {
        RealSolver s = H.solver;
        int real = s.real();
        int sum = 0;
        for (int j = 0; j < real; j++) {
            sum += s.multiplicity(j);
        }
        H.due("real zeros at most zeros", real <= zeros, true);
        H.due("zeros that are not real come in pairs", (zeros - real) % 2, 0);
        H.due("zeros at most stairs", zeros <= s.stairs(), true);
        H.due("multiplicities at most stairs", sum + zeros - real <= s.stairs(), true);
        H.due("multiplicities are even in all beside the real ones", (s.stairs() - sum) % 2, 0);
    }

    private static BigInteger floor(int j, int v, int k) {
        return new BigInteger(H.written(H.solver.floor(j, v, k)));
    }

    private static void boxes(int n) {
        RealSolver s = H.solver;
        int real = s.real();
        int apart = s.apart();
        for (int j = 0; j < real; j++) {
            for (int v = 1; v <= n; v++) {
                int k = RANDOM.nextInt(128);
                BigInteger coarse = floor(j, v, k);
                H.due("a box in a box", floor(j, v, k + 1).shiftRight(1), coarse);
                H.due("exact stays so", s.exact(j, v, k) <= s.exact(j, v, k + 1), true);
                String variable = "_xyz".substring(v, v + 1);
                BigInteger small = floor(j, v, 3);
                if (small.abs().bitLength() < 13 && !small.equals(BigInteger.ZERO)) {
                    String minus = small.signum() < 0 ? "+" + small.negate() : "-" + small;
                    int due = s.exact(j, v, 3) == 1 ? 1 : 2;
                    H.due("the sign of 8 x less its floor", H.sign("8" + variable + minus, j), due);
                }
                for (int i = 0; i < j; i++) {
                    int order = Integer.compare(s.rank(i, v), s.rank(j, v));
                    int found = floor(i, v, 128).compareTo(floor(j, v, 128));
                    H.due("ranks go with floors", order == found || found == 0, true);
                }
            }
        }
        if (apart > 0) {
            H.due("unlike boxes at apart", alike(n, real, apart), false);
            H.due("like boxes ahead of it", alike(n, real, apart - 1), true);
        }
    }

    private static boolean alike(int n, int real, int k) {
        for (int i = 0; i < real; i++) {
            for (int j = 0; j < i; j++) {
                boolean same = true;
                for (int v = 1; v <= n; v++) {
                    same = same && floor(i, v, k).equals(floor(j, v, k));
                }
                if (same) {
                    return true;
                }
            }
        }
        return false;
    }

    private static void signs(String[] system) {
        for (int j = 0; j < H.solver.real(); j++) {
            for (String polynomial : system) {
                H.due("the system is 0 at its zeros", H.sign(polynomial, j), 1);
            }
            H.due("what is above 0", H.sign("x2+1", j), 2);
        }
    }
}
