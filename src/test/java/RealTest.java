import java.math.BigInteger;

/** Promises 16 to 22: REAL ZEROS, MULTIPLICITY, RANK, FLOOR, exact, apart, sign. */
final class RealTest {
    private static final Harness H = new Harness();

    public static void main(String[] args) {
        counts();
        multiplicities();
        ranks();
        floors();
        rootsOfTwo();
        apart();
        signs();
        H.end();
    }

    private static void counts() {
        real(1, "x2+1", 0);
        real(1, "x2-2", 2);
        real(1, "x6-x2", 3);
        real(1, "1", 0);
        real(2, "x2-1;y2+1", 0);
        real(2, "x2+y2;x2-y2", 1);
        real(2, "x3-x;y3-y", 9);
        real(2, "x3-2;y3-3", 1);
        real(3, "x2-2;y2-2;z2-2", 8);
        real(3, "x2-2;y2-2;z2+2", 0);
        // The first coordinate is real at (1, i), too.
        real(2, "x2-x;y2+x", 1);
        real(2, "x2-3x+2;y2+1", 0);
    }

    private static void real(int n, String system, int due) {
        RealSolver s = H.fresh("real zeros of " + system);
        H.solve(n, system);
        H.due("real", s.real(), due);
        H.due("status", s.status(), 0);
        H.refused("multiplicity beyond", () -> s.multiplicity(due), 6);
        H.refused("multiplicity(-1)", () -> s.multiplicity(-1), 6);
        H.refused("rank beyond", () -> s.rank(due, 1), 6);
        H.refused("floor beyond", () -> s.floor(due, 1, 0), 6);
        H.refused("exact beyond", () -> s.exact(due, 1, 0), 6);
        H.feed("x");
        H.refused("sign beyond", () -> s.sign(due), 6);
    }

    private static void multiplicity(int n, String system, int... due) {
        RealSolver s = H.fresh("multiplicities of " + system);
        H.solve(n, system);
        H.due("real", s.real(), due.length);
        for (int j = 0; j < due.length; j++) {
            H.due("multiplicity(" + j + ")", s.multiplicity(j), due[j]);
            H.due("status", s.status(), 0);
        }
    }

    private static void multiplicities() {
        multiplicity(1, "x6", 6);
        multiplicity(1, "x6-x5", 5, 1);
        multiplicity(1, "x6-x4", 1, 4, 1);
        multiplicity(1, "x6+2x5+x4", 2, 4);
        multiplicity(1, "x5+x3", 3);
        // (x - 1)^2 (x + 2)^3 and (3x - 1)^2 (x - 7)
        multiplicity(1, "x5+4x4+x3-10x2-4x+8", 3, 2);
        multiplicity(1, "9x3-69x2+43x-7", 2, 1);
        multiplicity(2, "x2;y3", 6);
        multiplicity(2, "x3;xy;y2", 4);
        multiplicity(2, "y-x2;y2", 4);
        multiplicity(2, "x3-x2;y2-y", 2, 1, 2, 1);
        multiplicity(3, "x2;y2;z2", 8);
        multiplicity(3, "x2-x;y2;z2-z", 2, 2, 2, 2);
        multiplicity(2, "x2-2;y2", 2, 2);
        multiplicity(2, "x2+y2-2;xy-1", 2, 2);
    }

    private static void ranksOf(int n, String system, int... due) {
        RealSolver s = H.fresh("ranks of " + system);
        H.solve(n, system);
        H.due("real", s.real(), due.length / n);
        for (int j = 0; j < due.length / n; j++) {
            for (int v = 1; v <= n; v++) {
                H.due("rank(" + j + ", " + v + ")", s.rank(j, v), due[j * n + v - 1]);
                H.due("status", s.status(), 0);
            }
        }
        H.refused("rank of variable 0", () -> s.rank(0, 0), 6);
        H.refused("rank of a variable beyond", () -> s.rank(0, n + 1), 6);
    }

    private static void ranks() {
        ranksOf(1, "x3-x", 0, 1, 2);
        ranksOf(2, "x2+y2-25;xy-12", 0, 1, 1, 0, 2, 3, 3, 2);
        // u = x + 2 y at (-1,-1), (1,-1), (-1,1), (1,1)
        ranksOf(2, "x2-1;y2-1", 0, 0, 1, 0, 0, 1, 1, 1);
        // Real values that only zeros that are not real have count, too: y is 1, or 0 with x i.
        ranksOf(2, "y2-y;x2-2y+1", 0, 1, 1, 1);
        // u = x + 2 y + 4 z falls with y
        ranksOf(3, "x-1;y2-2;z+y", 0, 1, 0, 0, 0, 1);
    }

    private static void floorIs(int j, int v, int k, String due, boolean exact) {
        RealSolver s = H.solver;
        String call = "(" + j + ", " + v + ", " + k + ")";
        H.due("floor" + call, H.written(s.floor(j, v, k)), due);
        H.due("status", s.status(), 0);
        H.due("exact" + call, s.exact(j, v, k), exact ? 1 : 0);
        H.due("status", s.status(), 0);
    }

    private static void floors() {
        RealSolver s = H.fresh("floors of thirds and halves");
        H.solve(2, "6x2-5x+1;8y+5");
        floorIs(0, 1, 0, "0", false);
        floorIs(0, 1, 1, "0", false);
        floorIs(0, 1, 2, "1", false);
        floorIs(0, 1, 128, BigInteger.ONE.shiftLeft(128).divide(BigInteger.valueOf(3)).toString(), false);
        floorIs(1, 1, 0, "0", false);
        floorIs(1, 1, 1, "1", true);
        floorIs(1, 1, 128, BigInteger.ONE.shiftLeft(127).toString(), true);
        floorIs(0, 2, 0, "-1", false);
        floorIs(0, 2, 2, "-3", false);
        floorIs(0, 2, 3, "-5", true);
        floorIs(1, 2, 1, "-2", false);
        floorIs(1, 2, 5, "-20", true);
        H.refused("floor by -1", () -> s.floor(0, 1, -1), 2);
        H.refused("floor by 129", () -> s.floor(0, 1, 129), 2);
        H.refused("exact by -1", () -> s.exact(0, 1, -1), 2);
        H.refused("exact by 129", () -> s.exact(0, 1, 129), 2);
        H.refused("floor of variable 0", () -> s.floor(0, 0, 0), 6);
        H.refused("floor of variable 3", () -> s.floor(0, 3, 0), 6);
        H.refused("exact of variable 0", () -> s.exact(0, 0, 0), 6);
        H.refused("exact of variable 3", () -> s.exact(0, 3, 0), 6);

        H.fresh("floors of whole numbers");
        H.solve(3, "x;y+7;z-9999");
        floorIs(0, 1, 0, "0", true);
        floorIs(0, 1, 128, "0", true);
        floorIs(0, 2, 0, "-7", true);
        floorIs(0, 2, 4, "-112", true);
        floorIs(0, 3, 1, "19998", true);

        H.fresh("floors of the great and the small");
        H.solve(3, "z-9999;y-9999z2;x-9999y2");
        floorIs(0, 1, 0, BigInteger.valueOf(9999).pow(7).toString(), true);
        H.solve(3, "9999z-1;9999y-z2;9999x+y2");
        BigInteger tiny = BigInteger.valueOf(9999).pow(7);
        floorIs(0, 1, 128, BigInteger.ONE.shiftLeft(128).divide(tiny).add(BigInteger.ONE).negate().toString(), false);
        floorIs(0, 1, 0, "-1", false);
        floorIs(0, 2, 0, "0", false);

        H.fresh("neighbours that meet");
        H.solve(1, "x3-3x2+2x");
        for (int j = 0; j < 3; j++) {
            floorIs(j, 1, 0, String.valueOf(j), true);
            floorIs(j, 1, 3, String.valueOf(8 * j), true);
        }
        H.solve(1, "2x4-2x3-x2+x");
        floorIs(0, 1, 0, "-1", false);
        floorIs(1, 1, 0, "0", true);
        floorIs(2, 1, 0, "0", false);
        floorIs(3, 1, 0, "1", true);
    }

    /** The floor of 2^k times the square root of 2 is the whole root of 2^(2k + 1). */
    private static void rootsOfTwo() {
        for (int fine = 0; fine <= 128; fine += 2) {
            H.fresh("roots of two");
            H.solve(2, "x2-2;x+y");
            // A coarser floor, and then one that is finer than the middle one, too.
            for (int k : new int[] {fine, 64, 128 - fine}) {
                BigInteger root = BigInteger.TWO.pow(2 * k + 1).sqrt();
                floorIs(0, 1, k, root.add(BigInteger.ONE).negate().toString(), false);
                floorIs(1, 1, k, root.toString(), false);
            }
            H.due("real", H.solver.real(), 2);
        }
    }

    private static void apartIs(int n, String system, int due) {
        RealSolver s = H.fresh("apart of " + system);
        H.solve(n, system);
        H.due("apart", s.apart(), due);
        H.due("status", s.status(), 0);
        H.due("again", s.apart(), due);
    }

    private static void apart() {
        apartIs(1, "1", 0);
        apartIs(1, "x2+1", 0);
        apartIs(1, "x-5", 0);
        apartIs(1, "x2-x", 0);
        apartIs(1, "2x2-x", 1);
        apartIs(1, "4x2-x", 2);
        apartIs(1, "4096x2-x", 12);
        apartIs(1, "16x2-24x+9", 0);
        apartIs(1, "64x2-96x+35", 2);
        apartIs(2, "2x2-x;2y2-y", 1);
        apartIs(2, "x2-x;8y-x", 0);
        apartIs(2, "2x2-x;8y2-y;16xy-x-4y", 1);
        // u is x, and the zeros are told apart by y at once.
        apartIs(2, "4096x2-x;y-4096x", 0);
        apartIs(3, "9999y-x2;9999z-y2;z2-9801x2+198x-1", 72);
    }

    private static void signIs(String polynomial, int... due) {
        RealSolver s = H.solver;
        for (int j = 0; j < due.length; j++) {
            H.due("sign of " + polynomial + " at " + j, H.sign(polynomial, j), due[j]);
            H.due("status", s.status(), 0);
            H.due("the tape is taken", s.end(1), -1);
        }
    }

    private static void signs() {
        H.fresh("signs");
        H.solve(2, "x2+y2-25;xy-12");
        signIs("0", 1, 1, 1, 1);
        signIs("-1", 0, 0, 0, 0);
        signIs("x", 0, 0, 2, 2);
        signIs("x+y-7", 0, 0, 1, 1);
        signIs("x-3", 0, 0, 1, 2);
        signIs("x4-25x2+144", 1, 1, 1, 1);
        signIs("y2-x2", 0, 2, 2, 0);
        signIs("x9x9x2-y9y9y2", 2, 0, 0, 2);
        H.fresh("signs near roots");
        H.solve(1, "x2-2");
        signIs("408x+577", 2, 2);
        signIs("408x-577", 0, 0);
        signIs("985x-1393", 0, 2);
        signIs("x9x9x2-1024", 1, 1);
        signIs("x9x9x2-1024+x-x3+1x", 1, 1);
        signIs("x9x9x1", 0, 2);
        H.fresh("signs at repeated zeros");
        H.solve(2, "x3-x2;y2-2y+1");
        signIs("y-1", 1, 1);
        signIs("x-y", 0, 1);
        signIs("2x-y", 0, 2);
        H.fresh("signs with zeros that are not real");
        H.solve(2, "x2-x;y2+x");
        signIs("y", 1);
        signIs("x-1", 0);
    }
}
