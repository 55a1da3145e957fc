import java.math.BigInteger;
import java.util.ArrayList;
import java.util.Collections;
import java.util.List;
import java.util.Map;
import java.util.TreeMap;

/**
 * TEXTS of thousands of bytes are written whole: rests of DEGREE 20 by dense systems, compared with
 * rests that are found here with BigInteger.
 */
final class LongTextTest {
    private static final Harness H = new Harness();
    private static final int SAMPLES = 150;

    public static void main(String[] args) {
        String sextic = "9999x6-9998x5+9997x4-9996x3+9995x2-9994x+9993";
        rest(1, sextic, "x9x9x2", 400, new int[][] {{1, 20, 0, 0}});
        rest(1, sextic, "-7x9x8+x5", 300, new int[][] {{-7, 17, 0, 0}, {1, 5, 0, 0}});
        String cubics = dense(2, 1) + ";" + dense(2, 2);
        rest(2, dense(2, 3), "x9x9x2", 4096, new int[][] {{1, 20, 0, 0}});
        rest(2, cubics, "y9y9y2", 3800, new int[][] {{1, 0, 20, 0}});
        rest(2, cubics, "x9xy9y-9999x9x9+1", 3800, new int[][] {{1, 10, 10, 0}, {-9999, 18, 0, 0}, {1, 0, 0, 0}});
        String quadrics = dense(3, 4) + ";" + dense(3, 5);
        rest(3, dense(3, 6), "x9x9x2", 1 << 15, new int[][] {{1, 20, 0, 0}});
        rest(3, dense(3, 8, 10), "x9x9x2", 40000, new int[][] {{1, 20, 0, 0}});
        rest(3, quadrics, "y9y9y2", 1 << 14, new int[][] {{1, 0, 20, 0}});
        rest(3, quadrics + ";" + dense(3, 7), "z9z9z2", 7000, new int[][] {{1, 0, 0, 20}});
        rest(3, quadrics + ";" + dense(3, 7), "-3x7y7z6+x9x9z2", 7000, new int[][] {{-3, 7, 7, 6}, {1, 18, 0, 2}});
        H.end();
    }

    private static String dense(int n, int seed) {
        return dense(n, seed, 1);
    }

    /** Has all power products that there may be, each with some like TERMS of four digits. */
    private static String dense(int n, int seed, int likeTerms) {
        int most = n == 2 ? 3 : 2;
        int state = seed;
        StringBuilder text = new StringBuilder();
        for (int x = 0; x <= most; x++) {
            for (int y = 0; x + y <= most; y++) {
                for (int z = 0; z <= (n == 3 ? most - x - y : 0); z++) {
                    for (int i = 0; i < likeTerms; i++) {
                        state = state * 1103515245 + 12345;
                        char sign = (seed + x * y + z) % 3 == 0 ? '-' : '+';
                        text.append(sign).append(4000 + (state >>> 16) % 6000).append(new Product(x, y, z));
                    }
                }
            }
        }
        return text.toString();
    }

    /** The polynomial is told as a text and as rows of number and powers. */
    private static void rest(int n, String system, String polynomial, int atLeast, int[][] terms) {
        H.name("rest of " + polynomial + " by " + system);
        String[] lines = {"variables " + n, "tape " + system, "solve"};
        List<Sum> basis = basis(lines);
        Sum rest = new Sum();
        for (int[] term : terms) {
            rest.add(restOf(term, basis));
        }
        String due = rest.text();
        H.due("it is a long one", due.length() >= atLeast, true);
        Run run = new Run(lines);
        run.tape(polynomial);
        H.due("rest", run.play("rest"), due.length());
        H.due("status", run.status(), 0);
        H.due("length", run.play("length"), due.length());
        H.due("digest", run.play("digest"), digest(run, n, due));
        for (int i = 0; i < SAMPLES; i++) {
            int at = (int) ((long) i * (due.length() - 1) / (SAMPLES - 1));
            H.due("letter " + at, run.call("letter", at), (int) due.charAt(at));
        }
        H.due("letter behind it", run.call("letter", due.length()), -1);
        String first = basis.get(0).text();
        H.due("poly 0 in place of it", run.play("poly 0"), first.length());
        H.due("length of poly 0", run.play("length"), first.length());
    }

    private static List<Sum> basis(String... lines) {
        List<Sum> basis = new ArrayList<>();
        int count = new Run(lines).play("basis");
        for (int i = 0; i < count; i++) {
            basis.add(Sum.read(Run.longText("poly " + i, lines)));
        }
        return basis;
    }

    private static Sum restOf(int[] term, List<Sum> basis) {
        Sum rest = new Sum();
        rest.terms.put(new Product(0, 0, 0), BigInteger.valueOf(term[0]));
        for (int v = 1; v <= 3; v++) {
            for (int i = 0; i < term[v]; i++) {
                rest = rest.times(v);
                rest.reduce(basis);
            }
        }
        return rest;
    }

    private static int digest(Run run, int n, String text) {
        int d = 23;
        for (int i = 0; i < text.length(); i++) {
            d = d * 31 + text.charAt(i);
        }
        d = (d * 31) * 31 + n;
        int stairs = run.play("stairs");
        if (stairs < 0) {
            return d * 31 - 1;
        }
        d = (d * 31 + stairs) * 31 + run.play("zeros");
        return (d * 31 + run.play("form")) * 31 + run.play("real");
    }

    /** A power product, in the document's ORDER. */
    private record Product(int x, int y, int z) implements Comparable<Product> {
        @Override
        public int compareTo(Product other) {
            int byDegree = Integer.compare(x + y + z, other.x + other.y + other.z);
            int byZ = byDegree != 0 ? byDegree : Integer.compare(other.z, z);
            return byZ != 0 ? byZ : Integer.compare(other.y, y);
        }

        boolean divides(Product other) {
            return x <= other.x && y <= other.y && z <= other.z;
        }

        Product times(Product other) {
            return new Product(x + other.x, y + other.y, z + other.z);
        }

        Product over(Product other) {
            return new Product(x - other.x, y - other.y, z - other.z);
        }

        @Override
        public String toString() {
            return factor("x", x) + factor("y", y) + factor("z", z);
        }

        private static String factor(String letter, int power) {
            return power == 0 ? "" : power == 1 ? letter : letter + power;
        }
    }

    /** A sum of power products with fractions that have one divisor; the greatest comes first. */
    private static final class Sum {
        final TreeMap<Product, BigInteger> terms = new TreeMap<>(Collections.reverseOrder());
        BigInteger divisor = BigInteger.ONE;

        static Sum read(String text) {
            Sum sum = new Sum();
            for (String term : text.split("(?=[+-])")) {
                String number = term.replaceAll("[xyz].*", "");
                String digits = number.matches("[+-]?") ? number + "1" : number;
                String factors = term.substring(number.length());
                sum.terms.put(new Product(power(factors, 'x'), power(factors, 'y'), power(factors, 'z')),
                        new BigInteger(digits));
            }
            return sum;
        }

        private static int power(String factors, char letter) {
            int at = factors.indexOf(letter);
            if (at < 0) {
                return 0;
            }
            String digits = factors.substring(at + 1).replaceAll("[xyz].*", "");
            return digits.isEmpty() ? 1 : Integer.parseInt(digits);
        }

        void add(Sum other) {
            BigInteger before = divisor;
            multiply(other.divisor);
            addTimes(other, before, new Product(0, 0, 0));
            simplify();
        }

        Sum times(int v) {
            Sum result = new Sum();
            Product factor = new Product(v == 1 ? 1 : 0, v == 2 ? 1 : 0, v == 3 ? 1 : 0);
            terms.forEach((product, number) -> result.terms.put(product.times(factor), number));
            result.divisor = divisor;
            return result;
        }

        /** From the greatest power product down: what takes one away brings only lesser ones. */
        void reduce(List<Sum> basis) {
            Product product = terms.isEmpty() ? null : terms.firstKey();
            while (product != null) {
                for (Sum element : basis) {
                    if (terms.containsKey(product) && element.terms.firstKey().divides(product)) {
                        remove(product, element);
                    }
                }
                product = terms.higherKey(product);
            }
            simplify();
        }

        private void remove(Product product, Sum element) {
            Product lead = element.terms.firstKey();
            BigInteger number = terms.get(product);
            multiply(element.terms.get(lead));
            addTimes(element, number.negate(), product.over(lead));
        }

        private void multiply(BigInteger factor) {
            terms.replaceAll((product, number) -> number.multiply(factor));
            divisor = divisor.multiply(factor);
        }

        private void addTimes(Sum other, BigInteger times, Product shift) {
            for (Map.Entry<Product, BigInteger> term : other.terms.entrySet()) {
                Product product = term.getKey().times(shift);
                BigInteger sum = terms.getOrDefault(product, BigInteger.ZERO).add(term.getValue().multiply(times));
                if (sum.signum() == 0) {
                    terms.remove(product);
                } else {
                    terms.put(product, sum);
                }
            }
        }

        private void simplify() {
            BigInteger common = divisor;
            for (BigInteger number : terms.values()) {
                common = common.gcd(number);
            }
            BigInteger factor = common;
            terms.replaceAll((product, number) -> number.divide(factor));
            divisor = divisor.divide(factor);
        }

        String text() {
            StringBuilder text = new StringBuilder();
            terms.forEach((product, number) -> {
                String factors = product.toString();
                String digits = number.abs().toString();
                text.append(number.signum() < 0 ? "-" : text.length() > 0 ? "+" : "");
                text.append(digits.equals("1") && !factors.isEmpty() ? "" : digits).append(factors);
            });
            String whole = text.length() == 0 ? "0" : text.toString();
            return divisor.equals(BigInteger.ONE) ? whole : whole + "/" + divisor;
        }
    }
}
