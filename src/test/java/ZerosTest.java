/** Promises 12 to 15: ZEROS, FORM, ELIMINANTS, FRACTIONS. */
final class ZerosTest {
    private static final Harness H = new Harness();

    public static void main(String[] args) {
        counts();
        eliminants();
        fractions();
        reuse();
        H.end();
    }

    private static void count(int n, String system, int zeros, int k) {
        RealSolver s = H.fresh("zeros of " + system);
        H.due("solve", H.solve(n, system), zeros);
        H.due("status", s.status(), 0);
        H.due("zeros", s.zeros(), zeros);
        H.due("form", s.form(), k);
    }

    private static void counts() {
        count(1, "x6-x2", 5, 0);
        count(1, "x2+1", 2, 0);
        count(1, "5", 0, 0);
        count(1, "x6", 1, 0);
        count(2, "x;y", 1, 0);
        count(2, "x;y2-1", 2, 1);
        count(2, "x2-1;y", 2, 0);
        count(2, "x2-1;y2-1", 4, 2);
        count(2, "x2-4;y2-1", 4, 1);
        count(2, "x2+1;y2-1", 4, 1);
        count(2, "x3-x;y3-y", 9, 3);
        count(2, "x2;y2", 1, 0);
        count(2, "x2;y2-y", 2, 1);
        count(2, "xy;x2-x;y2+y", 3, 1);
        count(2, "xy;x2-x;y2-y", 3, 2);
        count(3, "x;y;z2-z", 2, 1);
        count(3, "x2-1;y2-1;z2-1", 8, 2);
        count(3, "x2-x;y2-y;z2-z", 8, 2);
        count(3, "x;y2-y;z2+z;yz+y", 3, 2);
        count(3, "x;y2-y;z2+z;yz", 3, 1);
        // x + y + z is alike at (0, 1, 0) and (0, 0, 1): only k 2 tells them apart.
        count(3, "x;y2-y;z2-z;yz", 3, 2);
        // (0, 0), (0, 1), (-1, 1), (-2, 1): the first is like the others for k 0, 1, 2.
        count(2, "y2-y;x3+3x2+2x;x-xy", 4, 3);
        count(2, "x3+y3-2;x2y+xy2-2", 3, 0);
        count(2, "xy-1;x", 0, 0);
        count(3, "x-1;x-2", 0, 0);
    }

    private static void eliminant(int n, String system, String... due) {
        RealSolver s = H.fresh("eliminants of " + system);
        H.solve(n, system);
        for (int v = 0; v <= n; v++) {
            H.due("eliminant(" + v + ")", H.written(s.eliminant(v)), due[v]);
            H.due("status", s.status(), 0);
        }
        H.refused("eliminant beyond", () -> s.eliminant(n + 1), 6);
        H.refused("eliminant(-1)", () -> s.eliminant(-1), 6);
    }

    private static void eliminants() {
        eliminant(2, "x2+y2-25;xy-12", "t4-25t2+144", "t4-25t2+144", "t4-25t2+144");
        eliminant(3, "x2-2;y2-x2;z2-3", "t8-232t6+16216t4-369312t2+1904400", "t2-2", "t2-2", "t2-3");
        eliminant(1, "x6-2x3+1", "t3-1", "t3-1");
        eliminant(1, "1", "1", "1");
        eliminant(1, "-6x3+4x2", "3t2-2t", "3t2-2t");
        eliminant(2, "x;y2-1", "t2-1", "t", "t2-1");
        eliminant(2, "2x-1;3y-1", "2t-1", "2t-1", "3t-1");
        eliminant(2, "x2-x-1;y-x2", "t2-t-1", "t2-t-1", "t2-3t+1");
        eliminant(3, "x;x-1;z", "1", "1", "1", "1");
        eliminant(2, "x3-x;y3-y", "t9-30t7+273t5-820t3+576t", "t3-t", "t3-t");
    }

    private static void fraction(int n, String system, String... due) {
        RealSolver s = H.fresh("fractions of " + system);
        H.solve(n, system);
        for (int v = 0; v <= n; v++) {
            H.due("fraction(" + v + ")", H.written(s.fraction(v)), due[v]);
            H.due("status", s.status(), 0);
        }
        H.refused("fraction beyond", () -> s.fraction(n + 1), 6);
        H.refused("fraction(-1)", () -> s.fraction(-1), 6);
    }

    private static void fractions() {
        // The sum over the zeros of E / (t - u) is the derivative of E.
        fraction(2, "x2+y2-25;xy-12", "4t3-50t", "50t2-576", "48t2-600");
        fraction(1, "x6-2x3+1", "6t2", "6");
        fraction(1, "1", "0", "0");
        fraction(1, "x2", "2", "0");
        fraction(1, "3x-2", "3", "2");
        fraction(2, "3x-2;7y-5", "3", "2", "15/7");
        fraction(2, "3x-2;7y+5", "3", "2", "-15/7");
        fraction(2, "x;3y2-2", "6t", "0", "4");
        fraction(2, "x2;3y2-2", "12t", "0", "8");
        fraction(3, "x-1;2y-1;3z-1", "1", "1", "1/2", "1/3");
    }

    /** What an earlier system left must not be seen, and no answer depends on it. */
    private static void reuse() {
        H.fresh("reuse");
        String[] systems = {"1;2", "x3-1;y3-1", "7", "x2-2;y2-3x", "x;y", "x;x-1", "xy", "y;x3-x"};
        int[] zeros = {0, 9, 0, 4, 1, 0, -1, 3};
        for (int round = 0; round < 5; round++) {
            for (int i = 0; i < systems.length; i++) {
                H.feed(systems[i]);
                H.due("solve", H.solver.solve(), zeros[i]);
            }
        }
    }
}
