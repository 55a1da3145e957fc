/** Promises 7 to 11: BASIS, STAIRS, REST. */
final class BasisTest {
    private static final Harness H = new Harness();

    public static void main(String[] args) {
        bases();
        stairs();
        rests();
        infiniteRests();
        H.end();
    }

    private static void basis(int n, String system, String... polynomials) {
        RealSolver s = H.fresh("basis of " + system);
        H.solve(n, system);
        H.due("basis", s.basis(), polynomials.length);
        for (int i = 0; i < polynomials.length; i++) {
            H.due("poly(" + i + ")", H.written(s.poly(i)), polynomials[i]);
            H.due("status", s.status(), 0);
        }
        H.refused("poly beyond", () -> s.poly(polynomials.length), 6);
        H.refused("poly(-1)", () -> s.poly(-1), 6);
    }

    private static void bases() {
        basis(2, "x2+y2-25;xy-12", "xy-12", "x2+y2-25", "y3+12x-25y");
        basis(2, "0");
        basis(2, "x-x;0y2");
        basis(2, "7", "1");
        basis(2, "x;x+3", "1");
        basis(1, "-4x2+6x", "2x2-3x");
        basis(1, "x6-1;x4-1", "x2-1");
        basis(2, "2x+4y-6;3x-y", "7y-9", "7x-3");
        basis(2, "x2y-1;xy2-x", "y2-1", "x2-y");
        basis(3, "z;y;x", "z", "y", "x");
        basis(3, "x+y+z;x-y;y-z", "z", "y", "x");
        basis(3, "x2-z;y2-z", "y2-z", "x2-z");
        basis(3, "xz-y2;x2-y;z2", "z2", "y2-xz", "x2-y");
        basis(2, "x3-2xy;x2y-2y2+x", "2y2-x", "xy", "x2");
        basis(2, "9999x3-1;9998y3-x", "9998y3-x", "9999x3-1");
        basis(3, "xy-1;yz-1;zx-1", "y-z", "x-z", "z2-1");
    }

    private static void stairsOf(int n, String system, String... stairs) {
        RealSolver s = H.fresh("stairs of " + system);
        H.solve(n, system);
        H.due("stairs", s.stairs(), stairs.length);
        for (int i = 0; i < stairs.length; i++) {
            H.due("stair(" + i + ")", H.written(s.stair(i)), stairs[i]);
        }
        H.refused("stair beyond", () -> s.stair(stairs.length), 6);
        H.refused("stair(-1)", () -> s.stair(-1), 6);
    }

    private static void stairs() {
        stairsOf(2, "x2+y2-25;xy-12", "1", "y", "x", "y2");
        stairsOf(2, "1");
        stairsOf(1, "x6+x", "1", "x", "x2", "x3", "x4", "x5");
        stairsOf(1, "3x-1", "1");
        stairsOf(2, "x3-1;y3-1", "1", "y", "x", "y2", "xy", "x2", "xy2", "x2y", "x2y2");
        stairsOf(3, "x2-1;y2-1;z2-1", "1", "z", "y", "x", "yz", "xz", "xy", "xyz");
        stairsOf(3, "x-z2;y-z;z2-2", "1", "z");
        stairsOf(2, "x-y3;y3-y2x", "1", "y", "x", "y2", "xy");
    }

    private static void restOf(int n, String system, String polynomial, String due) {
        H.fresh("rest of " + polynomial + " by " + system);
        H.solve(n, system);
        H.due("rest", H.rest(polynomial), due);
        H.due("status", H.solver.status(), 0);
        H.due("the tape is taken", H.solver.end(1), -1);
    }

    private static void rests() {
        restOf(2, "x2+y2-25;xy-12", "x5y3-7x+1", "-1728y2-7x+43201");
        restOf(2, "x2+y2-25;xy-12", "x2+y2-25", "0");
        restOf(2, "x2+y2-25;xy-12", "0", "0");
        restOf(2, "x2+y2-25;xy-12", "-x", "-x");
        restOf(2, "1", "x9y9+1", "0");
        restOf(2, "1", "5", "0");
        restOf(1, "3x-1", "x", "1/3");
        restOf(1, "3x-1", "-x9x9x2", "-1/3486784401");
        restOf(1, "3x-1", "3x", "1");
        restOf(1, "2x2-3", "4x3+x2-2x", "8x+3/2");
        restOf(1, "2x2-3", "2x2+6x", "6x+3");
        restOf(1, "2x2-3", "x3+x", "5x/2");
        restOf(1, "4x2-1", "2x2+x", "2x+1/2");
        restOf(1, "x2+1", "x9x9x2", "1");
        restOf(1, "x2+1", "x9x8+x9x9", "x-1");
        restOf(2, "2x-y;3y2-5", "x2", "5/12");
        restOf(3, "xy-1;yz-1;zx-1", "x7y7z6", "1");
        restOf(3, "xy-1;yz-1;zx-1", "x9y8z2+2", "z+2");
        restOf(2, "x3-1;y3-1", "x9x9x2y0+y9y9y2", "x2+y2");
    }

    private static void infiniteRests() {
        restOf(2, "0", "x9y9x2-y", "x11y9-y");
        restOf(2, "0", "12x9x9x2", "12x20");
        restOf(2, "xy-y;xy-x", "x2", "y");
        restOf(2, "xy-y", "x3y+x2", "x2+y");
        restOf(3, "x2-yz", "x9x9x2-1", "y10z10-1");
        restOf(3, "2x2-yz", "x4+x3+x", "y2z2+2xyz+4x/4");
        restOf(3, "3x-y", "x9x9x2", "y20/3486784401");
        restOf(3, "3x-y;2y-z", "x2y2+x", "z4+24z/144");
        restOf(2, "x2y-1", "x9y9", "xy5");
        restOf(2, "3x2y-1", "x9y9", "xy5/81");
    }
}
