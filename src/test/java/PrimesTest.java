/**
 * Systems whose numbers are multiples of the prime that the program reckons modulo where that is
 * quicker: what it does not see there it must find in another way.
 */
final class PrimesTest {
    private static final Harness H = new Harness();
    // The first prime of Ring.PRIMES, and a number of which it is 39980 times as much, less 2091.
    private static final long PRIME = 2147483629L;
    private static final String PART = "-9999".repeat(5) + "-3719";

    public static void main(String[] args) {
        H.name("the numbers");
        H.due("the prime", 39980L * (5 * 9999 + 3719) - 2091, PRIME);
        leadingNumber();
        unlikeByThePrime();
        nilpotentTimesThePrime();
        nilpotentAndGreaterForm();
        H.end();
    }

    /** The prime times a power product, the last variable being worth the number of which it is made. */
    private static String times(String product, char last) {
        String with = product + last;
        return ("+9999" + with).repeat(3) + "+9983" + with + "-2091" + product;
    }

    private static String minus(String terms) {
        return terms.replace('+', '#').replace('-', '+').replace('#', '-');
    }

    private static Run solved(int n, String system, int zeros) {
        H.name(system + ", n " + n);
        Run run = new Run("variables " + n, "tape " + system);
        H.due("solve", run.play("solve"), zeros);
        return run;
    }

    private static void leadingNumber() {
        Run run = solved(2, "y" + PART + ";" + times("x", 'y') + "-1", 1);
        H.due("eliminant of x", run.written("eliminant 1"), PRIME + "t-1");
        H.due("W 1", run.written("fraction 1"), "1");
        run.tape("x");
        H.due("rest of x", run.written("rest"), "1/" + PRIME);
        run = solved(2, "y" + PART + ";" + times("x2", 'y') + "-2", 2);
        H.due("eliminant of x", run.written("eliminant 1"), PRIME + "t2-2");
        H.due("real", run.play("real"), 2);
        run = solved(2, "y" + PART + ";" + times("x2", 'y') + minus(times("x", 'y')) + "+1", 2);
        H.due("eliminant of x", run.written("eliminant 0"), PRIME + "t2-" + PRIME + "t+1");
        run = solved(2, "x" + PART + ";" + times("y2", 'x') + "-1", 2);
        H.due("form", run.play("form"), 1);
        H.due("eliminant of y", run.written("eliminant 2"), PRIME + "t2-1");
        // p x - 1 is y, whose square is 0: the ZERO counts twice, and its x is a zero of p p t t - 2 p t + 1.
        run = solved(3, "z" + PART + ";y2;" + times("x", 'z') + "-1-y", 1);
        H.due("stairs", run.play("stairs"), 2);
        H.due("eliminant of x", run.written("eliminant 1"), PRIME + "t-1");
        H.due("eliminant of the form", run.written("eliminant 0"), PRIME + "t-1");
        H.due("W 0", run.written("fraction 0"), 2 * PRIME);
        H.due("multiplicity", run.play("multiplicity 0"), 2);
    }

    private static void unlikeByThePrime() {
        Run run = solved(2, "y" + PART + ";x2" + minus(times("x", 'y')), 2);
        H.due("eliminant of x", run.written("eliminant 1"), "t2-" + PRIME + "t");
        H.due("W 0", run.written("fraction 0"), "2t-" + PRIME);
        H.due("greatest x", run.written("floor 1 1 0"), PRIME);
        H.due("rank of it", run.play("rank 1 1"), 1);
        run = solved(2, "y" + PART + ";x3" + minus(times("x2", 'y')), 2);
        H.due("eliminant of x", run.written("eliminant 1"), "t2-" + PRIME + "t");
        H.due("multiplicity of 0", run.play("multiplicity 0"), 2);
        H.due("multiplicity of the other", run.play("multiplicity 1"), 1);
    }

    /** What is 0 at (0, 0) and at (p, p) without being 0 of the quotient, x x - p x, is 0 modulo p. */
    private static void nilpotentTimesThePrime() {
        String sum = minus(times("x", 'z')) + minus(times("y", 'z'));
        Run run = solved(3, "z" + PART + ";x2-xy;xy-y2;2x2" + sum, 2);
        H.due("stairs", run.play("stairs"), 3);
        H.due("zeros", run.play("zeros"), 2);
        H.due("form", run.play("form"), 0);
        H.due("eliminant", run.written("eliminant 0"), "t2-" + PRIME + "t");
        H.due("W 0", run.written("fraction 0"), "3t-" + 2 * PRIME);
        H.due("W 2", run.written("fraction 2"), PRIME + "t");
        H.due("real", run.play("real"), 2);
        H.due("multiplicity of 0", run.play("multiplicity 0"), 2);
        H.due("multiplicity of the other", run.play("multiplicity 1"), 1);
        H.due("its y", run.written("floor 1 2 0"), PRIME);
    }

    /** So is y y y - p p y with (0, 0) and (p, -p) and (p, p), which the forms 0 and 1 do not tell apart. */
    private static void nilpotentAndGreaterForm() {
        Run run = solved(3, "z" + PART + ";y2" + minus(times("x", 'z')) + ";x2" + minus(times("x", 'z')), 3);
        H.due("stairs", run.play("stairs"), 4);
        H.due("form", run.play("form"), 2);
        H.due("eliminant of x", run.written("eliminant 1"), "t2-" + PRIME + "t");
        H.due("eliminant of y", run.written("eliminant 2"), "t3-" + PRIME * PRIME + "t");
        long[][] points = {{PRIME, -PRIME, 1}, {0, 0, 2}, {PRIME, PRIME, 1}};
        for (int j = 0; j < points.length; j++) {
            H.due("x of " + j, run.written("floor " + j + " 1 0"), points[j][0]);
            H.due("y of " + j, run.written("floor " + j + " 2 0"), points[j][1]);
            H.due("multiplicity of " + j, run.play("multiplicity " + j), points[j][2]);
        }
    }
}
