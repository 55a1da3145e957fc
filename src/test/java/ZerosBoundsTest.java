import java.math.BigInteger;

/** The bounds that the document names for ZEROS and REAL ZEROS: promises 12 to 22. */
final class ZerosBoundsTest {
    private static final Harness H = new Harness();
    private static final int LEAST = Run.LEAST;
    private static final int GREATEST = Run.GREATEST;

    public static void main(String[] args) {
        howManyZeros();
        leastForm();
        greatForms();
        eliminantBounds();
        eachValueOnce();
        noCommonFactor();
        fractionBounds();
        quotientOfManyOnes();
        realOrNot();
        multiplicityBounds();
        rankBounds();
        floorBounds();
        floorOfGreatAndSmall();
        exactFromOnWhich();
        halfOpenBoxes();
        smallestPowers();
        apartBounds();
        signBounds();
        H.end();
    }

    private static void due(Run run, String line, int answer, int status) {
        H.due(line, run.play(line), answer);
        H.due(line + ", its status", run.status(), status);
    }

    private static Run solved(int n, String system) {
        H.name(system + ", n " + n);
        return new Run("variables " + n, "tape " + system, "solve");
    }

    /** "how many ZEROS it has": none, one, as many as STAIRS. */
    private static void howManyZeros() {
        zeros(1, "1", 0, 0);
        zeros(1, "x", 1, 1);
        zeros(1, "x6", 1, 6);
        zeros(1, "x6-x5", 2, 6);
        zeros(1, "x6-1", 6, 6);
        zeros(2, "x3;y3", 1, 9);
        zeros(2, "x3;y3-1", 3, 9);
        zeros(2, "x3-1;y3-1", 9, 9);
        zeros(2, "xy-1;x", 0, 0);
        zeros(3, "x2;y2;z2", 1, 8);
        zeros(3, "x2-1;y2-1;z2-1", 8, 8);
        zeros(3, "x2-1;y2-1;z2", 4, 8);
    }

    private static void zeros(int n, String system, int zeros, int stairs) {
        H.name(system + ", n " + n);
        Run run = new Run("variables " + n, "tape " + system);
        due(run, "solve", zeros, 0);
        due(run, "zeros", zeros, 0);
        due(run, "stairs", stairs, 0);
    }

    /** "k being the least from 0 on for which it has unlike values u at unlike ZEROS" */
    private static void leastForm() {
        form(1, "1", 0);
        form(1, "x6-1", 0);
        form(2, "x;y", 0);
        form(2, "x2-1;y", 0);
        form(2, "x3;y3", 0);
        form(2, "x;y2-1", 1);
        // (1, 0) and (0, 1) are alike for 1; so are (0, 0) and (1, -1).
        form(2, "x2-x;y2-y", 2);
        form(2, "x2-x;y2+y", 2);
        form(2, "x2-3x;y2-y", 1);
        // x 0, 4, 12 and y 0, 1, 4 differ by 1, 2, 3, 4 times as much.
        form(2, "x3-16x2+48x;y3-5y2+4y", 5);
        form(2, "x3-x;y3-y", 3);
        // Seven points with y -1, 0, 1 whose x lie so that all forms up to 8, up to 11 have like values
        form(2, "y3-y;-16y+32y2+4xy-10xy2-x2y;56-128y+248y2-22x-2xy-58xy2-5x2+x3", 9);
        form(2, "2x3+12x2-2x-60-222y-486y2-19xy-107xy2;30y+66y2+11xy+17xy2+2x2y;y3-y", 12);
        form(2, "x2+1;y2+1", 2);
        form(2, "x2+1;y2-1", 1);
        form(3, "x;y;z", 0);
        form(3, "x2-1;y;z", 0);
        form(3, "x;y2-1;z", 1);
        form(3, "x;y;z2-1", 1);
        form(3, "x2-x;y2-y;z2-z", 2);
        form(3, "x2-1;y2-1;z2-1", 2);
        // y + k z: (1, -1) is like (0, 0) for 1, and 2 does.
        form(3, "x;y2-y;yz+y;z2+z", 2);
    }

    private static void form(int n, String system, int k) {
        Run run = solved(n, system);
        due(run, "form", k, 0);
    }

    /** Points that lie so that each k but a great one has like values at two of them. */
    private static void greatForms() {
        points("2y3+xy+8y2;x2y+16xy2+22y3-xy-8y2+36y;4x3+67x2y+240xy2+74y3+48x2+385xy-64y2+108x-180y", 17,
                new int[][] {{-42, 3}, {0, 0}, {6, -1}, {-10, 1}, {-9, 0}, {6, -3}, {-3, 0}});
        points("x3+17x2y+72xy2+56y3+10x2+58xy+48y2;15x3+225x2y+688xy2-136y3+106x2+218xy-1248y2+264x;"
                + "9x3+69x2y-256xy2-680y3+2x2+34xy+1152y2+2640x+6336y", 17,
                new int[][] {{0, 0}, {54, -6}, {-10, 2}, {2, -2}, {32, -4}, {2, -1}, {18, -3}});
        points("yz-y;4xz-y2+36z2;4xz-y2+36z;x2+20xy-413xz+238y2+720yz+36z2+5x+720y+36z", 21,
                new int[][] {{16, -10, 1}, {216, -30, 1}, {0, 0, 0}, {-5, 0, 0}, {0, -6, 1}, {280, -34, 1}});
        points("xy+20xz+10y2+380yz+3600z2;131xy+2420xz+210y2+3510yz+270y;"
                + "9x2+4xy-1691xz+330y2+2430yz+693x+3510y;3xy+60xz+30y2+600yz+540y+9999z+801z", 21,
                new int[][] {{40, -22, 1}, {0, -18, 1}, {-96, 20, -1}, {-77, 0, 0}, {180, -60, 3}, {0, 0, 0}});
    }

    /** All ZEROS are given: they come in the order of their values, with their coordinates. */
    private static void points(String system, int k, int[][] points) {
        int n = points[0].length;
        H.due("the least k of the points", leastForm(points), k);
        Run run = solved(n, system);
        due(run, "zeros", points.length, 0);
        due(run, "form", k, 0);
        due(run, "real", points.length, 0);
        int[][] inOrder = points.clone();
        java.util.Arrays.sort(inOrder, (p, q) -> Integer.compare(value(p, k), value(q, k)));
        for (int j = 0; j < points.length; j++) {
            for (int v = 1; v <= n; v++) {
                H.due("zero " + j + ", coordinate " + v, run.written("floor " + j + " " + v + " 0"), inOrder[j][v - 1]);
                due(run, "exact " + j + " " + v + " 0", 1, 0);
            }
        }
    }

    private static int leastForm(int[][] points) {
        for (int k = 0;; k++) {
            java.util.Set<Integer> values = new java.util.HashSet<>();
            for (int[] point : points) {
                values.add(value(point, k));
            }
            if (values.size() == points.length) {
                return k;
            }
        }
    }

    private static int value(int[] point, int k) {
        return point[0] + k * point[1] + (point.length > 2 ? k * k * point[2] : 0);
    }

    /** "The ELIMINANT of the FORM (v 0), of a VARIABLE (1 to 3)": the VARIABLES that there are. */
    private static void eliminantBounds() {
        String[] systems = {"x-1", "x-1;y-2", "x-1;y-2;z-3"};
        for (String call : new String[] {"eliminant", "fraction"}) {
            for (int n = 1; n <= 3; n++) {
                Run run = solved(n, systems[n - 1]);
                for (int v = 0; v <= n; v++) {
                    H.due(call + " " + v, run.play(call + " " + v) > 0, true);
                    H.due("status", run.status(), 0);
                }
                for (int v : new int[] {LEAST, LEAST + 1, -2, -1, n + 1, n + 2, 4, 256, 1 << 16, GREATEST}) {
                    due(run, call + " " + v, -1, 6);
                }
                run.play("tape 0");
                run.play("solve");
                for (int v : new int[] {LEAST, -1, 0, 1, 2, 3, 4, GREATEST}) {
                    due(run, call + " " + v, -1, 5);
                }
                run.play("variables " + n);
                for (int v : new int[] {LEAST, -1, 0, 1, 2, 3, 4, GREATEST}) {
                    due(run, call + " " + v, -1, 4);
                }
            }
        }
    }

    /** "0 at its values at the ZEROS, at each once, and nowhere else" */
    private static void eachValueOnce() {
        eliminants(1, "x6", "t", "t");
        eliminants(1, "x6-x4", "t3-t", "t3-t");
        eliminants(2, "x3;y3", "t", "t", "t");
        eliminants(2, "x2;y2-2", "t2-2", "t", "t2-2");
        eliminants(2, "x2-1;y2-1", "t4-10t2+9", "t2-1", "t2-1");
        eliminants(2, "x2+1;y", "t2+1", "t2+1", "t");
        eliminants(3, "x2;y2;z2-z", "t2-t", "t", "t", "t2-t");
        eliminants(3, "1", "1", "1", "1", "1");
    }

    /** "with whole coefficients that have no common factor, the greatest above 0" */
    private static void noCommonFactor() {
        eliminants(1, "-4x-2", "2t+1", "2t+1");
        eliminants(1, "-9999x6+9999", "t6-1", "t6-1");
        eliminants(2, "2x-1;3y-1", "2t-1", "2t-1", "3t-1");
        eliminants(2, "4x2-2;-y", "2t2-1", "2t2-1", "t");
        eliminants(2, "x;6y2-5y+1", "6t2-5t+1", "t", "6t2-5t+1");
    }

    private static void eliminants(int n, String system, String... due) {
        Run run = solved(n, system);
        for (int v = 0; v <= n; v++) {
            H.due("eliminant " + v, run.written("eliminant " + v), due[v]);
        }
    }

    /** "the sum, over all ZEROS, of the MULTIPLICITY times E / (t - u)": of none, of one, of all */
    private static void fractionBounds() {
        fractions(1, "1", "0", "0");
        fractions(3, "1", "0", "0", "0", "0");
        fractions(1, "x", "1", "0");
        fractions(1, "x6", "6", "0");
        fractions(1, "x-1", "1", "1");
        fractions(2, "x3;y3", "9", "0", "0");
        fractions(2, "x2-2x+1;y2-4y+4", "4", "4", "8");
        fractions(2, "x-1;2y-1", "1", "1", "1/2");
        fractions(1, "x2-1", "2t", "2");
        fractions(1, "x3-x2", "3t-2", "t");
        fractions(1, "x2+1", "2t", "-2");
    }

    /**
     * Of a t^3 + t^2 + t + c W 1 is -t^2 - 2t - 3c. With these a, and 2^62 - 1 for 3c, that is found by
     * a division by a^4 in which a digit that is guessed from the leading words is too great by 1.
     */
    private static void quotientOfManyOnes() {
        String third = "+9999y3+2298y3" + "+9999y2".repeat(4) + "+1473y2+6182y+9999+9999+9303";
        for (int a : new int[] {2692, 2694, 2700}) {
            String lead = "9999x3+".repeat(9) + a + "x3";
            int sum = 9 * 9999 + a;
            fractions(2, "y" + "-9999".repeat(5) + "-5;" + lead + "+x2+x" + third, 3 * sum + "t2+2t+1",
                    "-t2-2t-4611686018427387903", 150000L * sum + "t2+100000t+50000");
        }
    }

    private static void fractions(int n, String system, String... due) {
        Run run = solved(n, system);
        for (int v = 0; v <= n; v++) {
            H.due("fraction " + v, run.written("fraction " + v), due[v]);
        }
    }

    /** "REAL ZEROS are those of real numbers" in all coordinates. */
    private static void realOrNot() {
        real(1, "1", 0);
        real(1, "x2+1", 0);
        real(1, "x2", 1);
        real(1, "x2-1", 2);
        real(1, "9999x2+1", 0);
        real(1, "9999x2-1", 2);
        real(2, "x;y2+1", 0);
        real(2, "x2+1;y", 0);
        real(2, "x2-1;y2+x", 2);
        real(2, "x2+y2;x2-y2", 1);
        real(2, "x2+1;y-x", 0);
        // u is 0 at (i, -i), whose coordinates are not real.
        real(2, "x2+1;x+y", 0);
        real(2, "x3+x;x+y", 1);
        real(3, "x2-1;y2-1;z2-1", 8);
        real(3, "x2-1;y2-1;z2+1", 0);
        real(2, "y-4x3+3x;x-4y3+3y", 9);
        real(1, "x6-9x4+9x2-1", 6);
    }

    private static void real(int n, String system, int due) {
        Run run = solved(n, system);
        due(run, "real", due, 0);
        int[] beyond = {LEAST, LEAST + 1, -2, -1, due, due + 1, 9, 10, 256, GREATEST};
        for (int j : beyond) {
            due(run, "multiplicity " + j, -1, 6);
            due(run, "rank " + j + " 1", -1, 6);
            due(run, "floor " + j + " 1 0", -1, 6);
            due(run, "exact " + j + " 1 0", -1, 6);
            due(run, "sign " + j, -1, 6);
        }
        for (int j = 0; j < due; j += Math.max(1, due - 1)) {
            H.due("multiplicity " + j, run.play("multiplicity " + j) > 0, true);
            H.due("rank " + j, run.play("rank " + j + " 1") >= 0, true);
            H.due("floor " + j, run.play("floor " + j + " 1 0") > 0, true);
            H.due("exact " + j, run.play("exact " + j + " 1 0") >= 0, true);
            run.play("tape 0");
            due(run, "sign " + j, 1, 0);
        }
    }

    /** "that of its local ring; all together are as many as STAIRS" */
    private static void multiplicityBounds() {
        multiplicities(1, "x", 1);
        multiplicities(1, "x6", 6);
        multiplicities(1, "x6-x5", 5, 1);
        multiplicities(1, "x6+x5", 1, 5);
        multiplicities(1, "x4-2x2+1", 2, 2);
        multiplicities(1, "x6+2x4+x2", 2);
        multiplicities(2, "x3;y3", 9);
        multiplicities(2, "x3;y3-y2", 6, 3);
        multiplicities(2, "x2;xy;y2", 3);
        multiplicities(2, "x2+y2-1;y-1", 2);
        multiplicities(3, "x2;y2;z2", 8);
        multiplicities(3, "x2;y2;z2;xy", 6);
        multiplicities(3, "x2;y2;z2;xy+yz;xz", 5);
        multiplicities(3, "x;y;z", 1);
        multiplicities(1, "1");
        multiplicities(1, "x4+2x2+1");
    }

    private static void multiplicities(int n, String system, int... due) {
        Run run = solved(n, system);
        due(run, "real", due.length, 0);
        for (int j = 0; j < due.length; j++) {
            due(run, "multiplicity " + j, due[j], 0);
        }
        due(run, "multiplicity " + due.length, -1, 6);
    }

    /** "how many lesser real zeros the ELIMINANT of its VARIABLE has": 0 to 8 */
    private static void rankBounds() {
        Run run = solved(2, "y-4x3+3x;x-4y3+3y");
        due(run, "form", 0, 0);
        boolean[] met = new boolean[9];
        for (int j = 0; j < 9; j++) {
            due(run, "rank " + j + " 1", j, 0);
            int rank = run.play("rank " + j + " 2");
            H.due("a rank of y", rank >= 0 && rank < 9 && !met[rank], true);
            met[Math.max(0, Math.min(8, rank))] = true;
        }
        String[] systems = {"x2-1", "x2-1;y-x", "x2-1;y-x;z-x"};
        for (int n = 1; n <= 3; n++) {
            run = solved(n, systems[n - 1]);
            for (int v : new int[] {LEAST, -1, 0, n + 1, n + 2, 4, GREATEST}) {
                due(run, "rank 0 " + v, -1, 6);
                due(run, "rank 1 " + v, -1, 6);
                due(run, "rank 2 " + v, -1, 6);
                due(run, "floor 0 " + v + " 0", -1, 6);
                due(run, "exact 0 " + v + " 0", -1, 6);
            }
            for (int v = 1; v <= n; v++) {
                due(run, "rank 0 " + v, 0, 0);
                due(run, "rank 1 " + v, 1, 0);
            }
        }
        // The ELIMINANT of y has 0 and 1; where y is 0 no ZERO is real, and it counts all the same.
        run = solved(2, "y2-y;x2-2y+1");
        due(run, "rank 0 2", 1, 0);
        due(run, "rank 1 2", 1, 0);
        // Zeros that are not real are neither lesser nor greater.
        run = solved(1, "x3-8");
        due(run, "rank 0 1", 0, 0);
    }

    /** "(2: k; 4; 5; 6)", k "0 to 128" */
    private static void floorBounds() {
        Run run = solved(2, "2x-1;3y+1");
        for (String call : new String[] {"floor 0 1 ", "exact 0 1 ", "floor 0 2 ", "exact 0 2 "}) {
            for (int k : new int[] {LEAST, LEAST + 1, -128, -1, 129, 130, 256, 1 << 16, GREATEST}) {
                due(run, call + k, -1, 2);
            }
            for (int k : new int[] {0, 1, 2, 127, 128}) {
                H.due(call + k, run.play(call + k) >= 0, true);
                H.due("status", run.status(), 0);
            }
        }
        floor(run, 1, 0, BigInteger.ZERO, false);
        floor(run, 1, 1, BigInteger.ONE, true);
        floor(run, 1, 127, BigInteger.ONE.shiftLeft(126), true);
        floor(run, 1, 128, BigInteger.ONE.shiftLeft(127), true);
        for (int k : new int[] {0, 1, 2, 127, 128}) {
            BigInteger third = BigInteger.ONE.shiftLeft(k).divide(BigInteger.valueOf(3));
            floor(run, 2, k, third.add(BigInteger.ONE).negate(), false);
        }
    }

    private static void floor(Run run, int v, int k, BigInteger due, boolean exact) {
        H.due("floor by " + k, run.written("floor 0 " + v + " " + k), due);
        due(run, "exact 0 " + v + " " + k, exact ? 1 : 0, 0);
    }

    private static void floorOfGreatAndSmall() {
        BigInteger great = BigInteger.valueOf(9999).pow(7);
        Run run = solved(3, "z-9999;y-9999z2;x-9999y2");
        for (int k : new int[] {0, 1, 127, 128}) {
            floor(run, 1, k, great.shiftLeft(k), true);
        }
        run = solved(3, "z+9999;y-9999z2;x+9999y2");
        floor(run, 1, 128, great.shiftLeft(128).negate(), true);
        // Floors that are carried over: of -(2^31 - 1/2), -(2^62 - 1/2), -(2^63 - 1/2)
        String z = "z-9999-9999-9999-9999-9999-9999-5542;y-z2;";
        carried(z + "2x+y-1", 31);
        carried(z + "4x+y2-2", 62);
        carried(z + "2x+y2-1", 63);
        run = solved(3, "9999z-1;9999y-z2;9999x-y2");
        floor(run, 1, 0, BigInteger.ZERO, false);
        floor(run, 1, 92, BigInteger.ZERO, false);
        floor(run, 1, 93, BigInteger.ONE.shiftLeft(93).divide(great), false);
        floor(run, 1, 128, BigInteger.ONE.shiftLeft(128).divide(great), false);
        run = solved(3, "9999z-1;9999y-z2;9999x+y2");
        floor(run, 1, 0, BigInteger.ONE.negate(), false);
        floor(run, 1, 128, BigInteger.ONE.shiftLeft(128).divide(great).add(BigInteger.ONE).negate(), false);
    }

    /** x is 1/2 above -2^bits. */
    private static void carried(String system, int bits) {
        Run run = solved(3, system);
        BigInteger power = BigInteger.ONE.shiftLeft(bits);
        floor(run, 1, 0, power.negate(), false);
        floor(run, 1, 1, power.shiftLeft(1).subtract(BigInteger.ONE).negate(), true);
        floor(run, 1, 128, power.shiftLeft(128).subtract(BigInteger.ONE.shiftLeft(127)).negate(), true);
        floor(run, 1, 0, power.negate(), false);
        due(run, "apart", 0, 0);
    }

    /** "Whether that is 2^k times the coordinate": not for k below, and from there on for all. */
    private static void exactFromOnWhich() {
        int[] levels = {0, 1, 5, 12, 13};
        for (int level : levels) {
            for (String sign : new String[] {"-3", "+3"}) {
                Run run = solved(1, (1 << level) + "x" + sign);
                for (int k = Math.max(0, level - 2); k <= level + 2; k++) {
                    due(run, "exact 0 1 " + k, k >= level ? 1 : 0, 0);
                }
                due(run, "exact 0 1 128", 1, 0);
            }
        }
        for (String never : new String[] {"3x-1", "3x+9998", "9999x-1", "x2-2", "x3-x-1", "7x2-7x-1"}) {
            Run run = solved(1, never);
            for (int k : new int[] {0, 1, 64, 127, 128}) {
                due(run, "exact 0 1 " + k, 0, 0);
            }
        }
        Run run = solved(1, "x");
        for (int k : new int[] {0, 1, 127, 128}) {
            due(run, "exact 0 1 " + k, 1, 0);
        }
    }

    /** "the greatest whole number not above 2^k times the coordinate": the box has its lower side only. */
    private static void halfOpenBoxes() {
        for (int k : new int[] {0, 1, 2, 3, 127, 128}) {
            BigInteger one = BigInteger.ONE.shiftLeft(k);
            BigInteger below = one.multiply(BigInteger.valueOf(9998)).divide(BigInteger.valueOf(9999));
            BigInteger above = one.multiply(BigInteger.valueOf(9999)).divide(BigInteger.valueOf(9998));
            // 1 itself, the nearest below it and the nearest above it that NUMBERS of four digits have
            floor(solved(1, "x-1"), 1, k, one, true);
            floor(solved(1, "9999x-9998"), 1, k, below, false);
            floor(solved(1, "9998x-9999"), 1, k, above, false);
            floor(solved(1, "x+1"), 1, k, one.negate(), true);
            floor(solved(1, "9999x+9998"), 1, k, below.add(BigInteger.ONE).negate(), false);
            floor(solved(1, "9998x+9999"), 1, k, above.add(BigInteger.ONE).negate(), false);
            BigInteger root = BigInteger.TWO.pow(2 * k + 1).sqrt();
            Run run = solved(1, "x2-2");
            H.due("floor of the root", run.written("floor 1 1 " + k), root);
            H.due("floor of the other", run.written("floor 0 1 " + k), root.add(BigInteger.ONE).negate());
        }
    }

    /** 8192 times the VARIABLE so often: 2^(13 + bits) of it. */
    private static String many(String variable, int bits) {
        String one = "8192" + variable;
        return one + ("+" + one).repeat((1 << bits) - 1);
    }

    /** x is 2^-level, or less than 0 by that: the finest boxes that there are have sides 2^-128. */
    private static void smallestPowers() {
        for (int level = 126; level <= 130; level++) {
            for (int sign = -1; sign <= 1; sign += 2) {
                // z is 2^-19, y z z / 2^18, x y y / 2^(level - 112)
                String system = many("z", 6) + "-1;" + many("y", 5) + "-z2;" + many("x", level - 125)
                        + (sign < 0 ? "+" : "-") + "y2";
                Run run = new Run("variables 3", "tape " + system, "solve");
                H.name("x is " + sign + " times 2^-" + level);
                for (int k = 125; k <= 128; k++) {
                    BigInteger up = k >= level ? BigInteger.ONE.shiftLeft(k - level) : BigInteger.ZERO;
                    BigInteger down = k >= level ? up.negate() : BigInteger.ONE.negate();
                    floor(run, 1, k, sign < 0 ? down : up, k >= level);
                }
            }
        }
    }

    /** "The least k by which all REAL ZEROS lie in unlike boxes": 0 if there is none, or one. */
    private static void apartBounds() {
        apart(1, "1", 0);
        apart(1, "x2+1", 0);
        apart(1, "x", 0);
        apart(1, "x6", 0);
        apart(1, "x2-x", 0);
        apart(1, "x2+x", 0);
        // 0 and 1 / 2^k share the boxes of all sides above that, -1 / 2^k and 0 none.
        for (int k = 1; k <= 13; k++) {
            apart(1, (1 << k) + "x2-x", k);
            apart(1, (1 << k) + "x2+x", 0);
        }
        apart(1, "9999x2-x", 14);
        apart(1, "x2-2", 0);
        apart(1, "2x2-2x-1", 0);
        apart(1, "x6-9x4+9x2-1", 1);
        // One coordinate is enough, and the one that tells them apart first counts.
        apart(2, "x2-x;8y-x", 0);
        apart(2, "8192x2-x;y-8192x", 0);
        apart(2, "8192x2-x;y-x", 13);
        apart(2, "8192x2-x;y-2x", 12);
        apart(2, "16x2-x;8y2-y", 4);
        apart(3, "16x2-x;y-2x;z-4x", 2);
        Run run = solved(2, "x");
        due(run, "apart", -1, 5);
        due(new Run(), "apart", -1, 4);
    }

    private static void apart(int n, String system, int due) {
        Run run = solved(n, system);
        due(run, "apart", due, 0);
        due(run, "apart", due, 0);
    }

    /** "below 0, 0, above 0 at a REAL ZERO: 0, 1, 2" */
    private static void signBounds() {
        sign(1, "x", "1", 2);
        sign(1, "x", "0", 1);
        sign(1, "x", "-1", 0);
        sign(1, "x", "x", 1);
        sign(1, "9999x-1", "9999x-1", 1);
        sign(1, "9999x-1", "9998x-1", 0);
        sign(1, "9999x-1", "9999x-1+x9x9x2", 2);
        sign(1, "9999x-1", "9999x-1-x9x9x2", 0);
        sign(1, "x2-2", "x9x9x2-1024", 1);
        sign(1, "x2-2", "x9x9x2-1024-x", 2);
        sign(1, "x2-2", "x9x9x1", 0);
        sign(2, "x-9999;y+9999", "x9x9x2-y9y9y2", 1);
        sign(2, "x-9999;y+9999", "x9x9x1+y9y9y1", 1);
        sign(2, "x-9999;y+9999", "x9x9x1-y9y9y1-1", 2);
        sign(2, "x-9999;y+9999", "y9y9y1", 0);
        sign(2, "x2;y2-2y+1", "x+y-1", 1);
        sign(2, "x2;y2-2y+1", "x+y-2", 0);
        Run run = solved(1, "x2-1");
        run.play("tape x");
        due(run, "sign 0", 0, 0);
        due(run, "end 1", -1, 2);
        run.play("tape x");
        due(run, "sign 1", 2, 0);
        run.play("tape x");
        due(run, "sign 2", -1, 6);
        due(run, "end 1", 1, 0);
    }

    private static void sign(int n, String system, String polynomial, int due) {
        Run run = solved(n, system);
        run.play("tape " + polynomial);
        due(run, "sign 0", due, 0);
        H.due("place", run.place(), -1);
        H.due("length", run.call("length"), 0);
    }
}
