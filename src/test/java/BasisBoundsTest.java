/** The bounds that the document names for the BASIS, STAIRS and RESTS: promises 7 to 11. */
final class BasisBoundsTest {
    private static final Harness H = new Harness();
    private static final int LEAST = Run.LEAST;
    private static final int GREATEST = Run.GREATEST;

    public static void main(String[] args) {
        noPolynomials();
        noStairs();
        infiniteOrNot();
        polyBounds();
        stairBounds();
        mostStairs();
        orderOfOneDegree();
        wholeCoefficients();
        restByNothing();
        restOfWhatIsThere();
        restOfDegreeTwenty();
        restOfInfinite();
        H.end();
    }

    private static void due(Run run, String line, int answer, int status) {
        H.due(line, run.play(line), answer);
        H.due(line + ", its status", run.status(), status);
    }

    private static Run solved(int n, String system) {
        H.name(system + ", n " + n);
        return new Run("variables " + n, "tape " + system, "solve");
    }

    /** A SYSTEM of nothing but 0: the BASIS has no POLYNOMIAL, and all points are ZEROS. */
    private static void noPolynomials() {
        for (int n = 1; n <= 3; n++) {
            for (String system : new String[] {"0", "0;0", "x-x", "0x;-0;x-1x;0;0"}) {
                Run run = solved(n, system);
                H.due("status", run.status(), 5);
                due(run, "basis", 0, 0);
                for (int i : new int[] {LEAST, -1, 0, 1, GREATEST}) {
                    due(run, "poly " + i, -1, 6);
                }
                due(run, "stairs", -1, 5);
                due(run, "zeros", -1, 5);
            }
        }
    }

    /** "none just when there are no STAIRS" */
    private static void noStairs() {
        String[][] systems = {{"1", "7", "x;1", "x;x-1", "x2;x2+1"}, {"1", "x;x-1", "xy-1;x", "0;5"},
            {"9999", "x;y;z-1;z-2", "xz-1;z", "x;x;x;x;1"}};
        for (int n = 1; n <= 3; n++) {
            for (String system : systems[n - 1]) {
                Run run = solved(n, system);
                H.due("status", run.status(), 0);
                due(run, "basis", 1, 0);
                H.due("poly", run.written("poly 0"), "1");
                due(run, "poly 1", -1, 6);
                due(run, "stairs", 0, 0);
                for (int i : new int[] {LEAST, -1, 0, 1, GREATEST}) {
                    due(run, "stair " + i, -1, 6);
                }
                due(run, "zeros", 0, 0);
                due(run, "form", 0, 0);
                due(run, "real", 0, 0);
                due(run, "apart", 0, 0);
                due(run, "multiplicity 0", -1, 6);
                due(run, "rank 0 1", -1, 6);
                due(run, "floor 0 1 0", -1, 6);
                due(run, "exact 0 1 0", -1, 6);
                due(run, "sign 0", -1, 6);
                for (int v = 0; v <= n; v++) {
                    H.due("eliminant", run.written("eliminant " + v), "1");
                    H.due("fraction", run.written("fraction " + v), "0");
                }
                due(run, "eliminant " + (n + 1), -1, 6);
                run.play("tape x+3");
                H.due("rest", run.written("rest"), "0");
            }
        }
        Run point = solved(2, "x;y");
        due(point, "stairs", 1, 0);
        due(point, "zeros", 1, 0);
    }

    /** "If there are infinitely many the SYSTEM is INFINITE": one POLYNOMIAL more, and it is not. */
    private static void infiniteOrNot() {
        infinite(1, "0", true);
        infinite(1, "x", false);
        infinite(1, "x6", false);
        infinite(2, "x", true);
        infinite(2, "y3", true);
        infinite(2, "xy", true);
        infinite(2, "x2+y2", true);
        infinite(2, "x2+y2+1", true);
        infinite(2, "x2y-y;xy2-x2y", true);
        infinite(2, "xy;x2-x", true);
        infinite(2, "xy;x2-x;y2", false);
        infinite(2, "x;y", false);
        infinite(2, "x-y;y-x", true);
        infinite(2, "x-y;y-x+1", false);
        infinite(3, "x;y", true);
        infinite(3, "x;y;z", false);
        infinite(3, "x2;y2;xy", true);
        infinite(3, "x2;y2;z2", false);
        infinite(3, "x2-y;y2-z;x2+y2-y-z", true);
        infinite(3, "x2-y;y2-z;x2+y2-y-z-1", false);
        infinite(3, "xy;yz;zx", true);
        infinite(3, "xy;yz;zx;x2+y2+z2", false);
    }

    private static void infinite(int n, String system, boolean so) {
        Run run = solved(n, system);
        H.due("status", run.status(), so ? 5 : 0);
        H.due("stairs", run.call("stairs") < 0, so);
        H.due("status", run.status(), so ? 5 : 0);
        H.due("there is a BASIS all the same", run.call("basis") >= 0, true);
    }

    /** "(4; 6)", "(also of an INFINITE SYSTEM)" */
    private static void polyBounds() {
        String[] systems = {"x;y", "x2-1;y2-1", "x2+y2-25;xy-12", "xy", "x2y-y;xy2-x", "1"};
        for (String system : systems) {
            Run run = solved(2, system);
            int count = run.call("basis");
            for (int i : new int[] {LEAST, LEAST + 1, -2, -1, count, count + 1, 63, 64, 65, 1000, GREATEST}) {
                due(run, "poly " + i, -1, 6);
            }
            for (int i = 0; i < count; i++) {
                H.due("poly " + i, run.play("poly " + i) > 0, true);
                H.due("status", run.status(), 0);
            }
            run.play("variables 2");
            for (int i : new int[] {LEAST, -1, 0, count - 1, count, GREATEST}) {
                due(run, "poly " + i, -1, 4);
            }
            due(run, "basis", -1, 4);
        }
    }

    /** "(4; 5; 6)" */
    private static void stairBounds() {
        String[] systems = {"x;y", "x2-1;y", "x2-1;y2-1", "x3;y3"};
        int[] counts = {1, 2, 4, 9};
        for (int s = 0; s < systems.length; s++) {
            Run run = solved(2, systems[s]);
            int count = counts[s];
            due(run, "stairs", count, 0);
            for (int i : new int[] {LEAST, LEAST + 1, -2, -1, count, count + 1, 9, 10, 11, 1000, GREATEST}) {
                due(run, "stair " + i, -1, 6);
            }
            for (int i = 0; i < count; i++) {
                H.due("stair " + i, run.play("stair " + i) > 0, true);
                H.due("status", run.status(), 0);
            }
            run.play("tape x");
            run.play("solve");
            due(run, "stairs", -1, 5);
            due(run, "stair 0", -1, 5);
            due(run, "stair -1", -1, 5);
            run.play("variables 1");
            due(run, "stairs", -1, 4);
            due(run, "stair " + GREATEST, -1, 4);
        }
    }

    /** The most STAIRS that texts of these DEGREES can lead to: 6, 9, 8; numbered, the least first. */
    private static void mostStairs() {
        stairs(1, "x6-x-1", "1", "x", "x2", "x3", "x4", "x5");
        stairs(1, "x", "1");
        stairs(2, "x3-y;y3-x", "1", "y", "x", "y2", "xy", "x2", "xy2", "x2y", "x2y2");
        stairs(2, "x3+2x2y+3xy2+4y3-1;5x3-y3-x", "1", "y", "x", "y2", "xy", "x2", "y3", "xy2", "y4");
        stairs(3, "x2-y;y2-z;z2-x", "1", "z", "y", "x", "yz", "xz", "xy", "xyz");
        stairs(3, "x2+yz-1;y2+xz-2;z2+xy-3", "1", "z", "y", "x", "z2", "yz", "xz", "z3");
    }

    private static void stairs(int n, String system, String... due) {
        Run run = solved(n, system);
        due(run, "stairs", due.length, 0);
        for (int i = 0; i < due.length; i++) {
            H.due("stair " + i, run.written("stair " + i), due[i]);
        }
        due(run, "stair " + due.length, -1, 6);
    }

    /** "of one DEGREE the one with less of z is the greater, if that is alike the one with less of y" */
    private static void orderOfOneDegree() {
        basis(3, "x-1;y-1;z-1", "z-1", "y-1", "x-1");
        basis(3, "x+y+z", "x+y+z");
        basis(3, "z-y", "y-z");
        basis(3, "z2+xy", "xy+z2");
        basis(3, "xz-y2", "y2-xz");
        basis(2, "y3-x3", "x3-y3");
        basis(2, "xy2-x2y", "x2y-xy2");
        basis(2, "x2-y3", "y3-x2");
        basis(3, "x2;xy;y2;xz;z2-1", "x", "z2-1", "y2");
        basis(3, "z2;yz;xz;y2;x2", "z2", "yz", "xz", "y2", "x2");
        basis(2, "x2;y3;x2y+y", "y", "x2");
    }

    private static void basis(int n, String system, String... due) {
        Run run = solved(n, system);
        due(run, "basis", due.length, 0);
        for (int i = 0; i < due.length; i++) {
            H.due("poly " + i, run.written("poly " + i), due[i]);
        }
    }

    /** "whole coefficients that have no common factor, the one of its greatest power product above 0" */
    private static void wholeCoefficients() {
        basis(1, "4x-6", "2x-3");
        basis(1, "-4x-6", "2x+3");
        basis(1, "-x", "x");
        basis(1, "9999x6-9999", "x6-1");
        basis(2, "-2x+y;-3y", "y", "x");
        basis(2, "2x-3y;0", "2x-3y");
        basis(2, "-7", "1");
        basis(2, "2x2-y;3xy-1", "3y2-2x", "3xy-1", "2x2-y");
    }

    private static void rest(int n, String system, String polynomial, String due) {
        Run run = solved(n, system);
        run.play("tape " + polynomial);
        H.due("rest of " + polynomial, run.written("rest"), due);
        H.due("status", run.status(), 0);
        due(run, "end 1", -1, 2);
    }

    private static void restByNothing() {
        rest(1, "0", "x9x9x2-9999", "x20-9999");
        rest(2, "0", "0", "0");
        rest(3, "0", "xyz-z9y9", "-y9z9+xyz");
    }

    private static void restOfWhatIsThere() {
        rest(2, "x2+y2-25;xy-12", "x2+y2-25", "0");
        rest(2, "x2+y2-25;xy-12", "y2", "y2");
        rest(2, "x2+y2-25;xy-12", "y3", "-12x+25y");
        rest(2, "x2+y2-25;xy-12", "-1", "-1");
        rest(2, "1", "-1", "0");
        rest(2, "1", "x9x9x2+y9y9y2", "0");
        rest(1, "x6-1", "x5", "x5");
        rest(1, "x6-1", "x6", "1");
    }

    private static void restOfDegreeTwenty() {
        rest(1, "x-2", "x9x9x2", "1048576");
        rest(1, "x-2", "x9x9x2-x9x9x1", "524288");
        rest(1, "x+2", "x9x9x1", "-524288");
        rest(2, "x-2;y-3", "x9xy9y", "60466176");
        rest(3, "x-2;y-3;z+1", "x9y9z2", "10077696");
        rest(2, "x3-y;y3-x", "x9x9x2", "xy");
        rest(1, "9999x-1", "x9x9x2", "1/" + java.math.BigInteger.valueOf(9999).pow(20));
        rest(1, "x-9999", "x9x9x2", String.valueOf(java.math.BigInteger.valueOf(9999).pow(20)));
    }

    /** "(4; 1; also of an INFINITE SYSTEM)" */
    private static void restOfInfinite() {
        rest(2, "x", "x9y9", "0");
        rest(2, "x", "y9y9y2+x", "y20");
        rest(2, "xy-1", "x9y9", "1");
        rest(2, "xy-1", "x9x1y9", "x");
        rest(3, "2x-y", "x9x9x2", "y20/1048576");
        Run run = solved(2, "xy");
        run.play("tape x+");
        due(run, "rest", -1, 1);
        H.due("place", run.place(), 2);
        due(run, "basis", 1, 0);
        due(new Run("tape x"), "rest", -1, 4);
        due(new Run(), "rest", -1, 4);
    }
}
