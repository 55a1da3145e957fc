import java.math.BigInteger;

/** The bounds of texts that are written, and promises 23, 24, 26: length, letter, digest. */
final class TextBoundsTest {
    private static final Harness H = new Harness();
    private static final int LEAST = Run.LEAST;
    private static final int GREATEST = Run.GREATEST;

    public static void main(String[] args) {
        wholeNumbers();
        signsOfTerms();
        numberOne();
        powersWithTwoDigits();
        powersInT();
        orderOfTerms();
        none();
        divisorOne();
        commonFactors();
        lengthAndLetter();
        writingTakesThePlaceOfTheText();
        digestOfEachPart();
        digestWraps();
        H.end();
    }

    private static void rest(int n, String system, String polynomial, String due) {
        H.name("rest of " + polynomial + " by " + system);
        H.due("text", new Run("variables " + n, "tape " + system, "solve", "tape " + polynomial).written("rest"), due);
    }

    private static void text(int n, String system, String call, String due) {
        H.name(call + " of " + system);
        H.due("text", new Run("variables " + n, "tape " + system, "solve").written(call), due);
    }

    /** "Whole numbers: digits, - ahead of them below 0." */
    private static void wholeNumbers() {
        String[] numbers = {"0", "1", "9", "10", "99", "100", "999", "1000", "9998", "9999"};
        for (String number : numbers) {
            text(1, "x-" + number, "floor 0 1 0", number);
            if (!number.equals("0")) {
                text(1, "x+" + number, "floor 0 1 0", "-" + number);
            }
        }
        // 2^k about the ends of words of 30, 31, 32, 62, 63, 64 bits and of nine digits
        for (int k : new int[] {29, 30, 31, 32, 33, 61, 62, 63, 64, 65, 93, 124, 127, 128}) {
            BigInteger power = BigInteger.ONE.shiftLeft(k);
            text(1, "x-1", "floor 0 1 " + k, power.toString());
            text(1, "x+1", "floor 0 1 " + k, power.negate().toString());
            text(1, "x+9999", "floor 0 1 " + k, power.multiply(BigInteger.valueOf(-9999)).toString());
        }
        rest(2, "x-9999y-1y;y-1000", "x", "10000000");
        rest(1, "x-1000", "x3", "1000000000");
        rest(1, "x-1000", "x3-1", "999999999");
        rest(1, "x-1000", "x6", "1000000000000000000");
        rest(1, "x-1000", "x6-1", "999999999999999999");
        rest(1, "x-1000", "x6+1", "1000000000000000001");
        rest(1, "x-1000", "-x9x9x2-7", "-1" + "0".repeat(59) + "7");
    }

    /** "the first with - if it is below 0, the others with + or -" */
    private static void signsOfTerms() {
        rest(2, "0", "x+y", "x+y");
        rest(2, "0", "x-y", "x-y");
        rest(2, "0", "-x+y", "-x+y");
        rest(2, "0", "-x-y-1", "-x-y-1");
        rest(2, "0", "+5", "5");
        rest(2, "0", "-5", "-5");
        text(2, "y2-x;-3x3", "poly 1", "x3");
    }

    /** "the NUMBER without sign (left out, if it is 1 and FACTORS come behind it)" */
    private static void numberOne() {
        rest(2, "0", "1x", "x");
        rest(2, "0", "-1x", "-x");
        rest(2, "0", "1", "1");
        rest(2, "0", "-1", "-1");
        rest(2, "0", "2x", "2x");
        rest(2, "0", "0x", "0");
        rest(2, "0", "x+1", "x+1");
        rest(2, "0", "x-1", "x-1");
        rest(2, "0", "11x-11", "11x-11");
        rest(1, "3x2-1", "x2", "1/3");
        rest(1, "3x2-1", "x3", "x/3");
        rest(1, "3x2-1", "-x2", "-1/3");
        text(1, "x-1", "fraction 0", "1");
        text(1, "x+1", "fraction 1", "-1");
        text(1, "x2-x-1", "eliminant 0", "t2-t-1");
        text(2, "1", "poly 0", "1");
        text(2, "x;y", "stair 0", "1");
    }

    /** "each with its power if that is above 1 (powers above 9 with two digits)" */
    private static void powersWithTwoDigits() {
        for (int power = 0; power <= 20; power++) {
            for (int v = 0; v < 3; v++) {
                String one = "xyz".substring(v, v + 1);
                String read = power == 0 ? "1" : one.repeat(power);
                String due = power == 0 ? "1" : power == 1 ? one : one + power;
                rest(3, "0", read, due);
            }
        }
        rest(3, "0", "x9xyz9", "x10yz9");
        rest(3, "0", "x5y5y5z5", "x5y10z5");
        rest(2, "0", "3x9x2y9-7", "3x11y9-7");
        rest(2, "0", "x9xy9y", "x10y10");
    }

    /** Also of t, which has the DEGREE 9 at most: as many as there may be ZEROS. */
    private static void powersInT() {
        text(2, "y3-x;x3-2", "eliminant 2", "t9-2");
        text(2, "y-x3;y3-2", "eliminant 1", "t9-2");
        text(2, "y-x3;y3-2", "eliminant 0", "t9-2");
        text(2, "y-x3;y3-2", "fraction 0", "9t8");
        text(1, "x6-2", "eliminant 0", "t6-2");
        text(1, "x2-2", "fraction 0", "2t");
        text(1, "x-2", "eliminant 0", "t-2");
        text(1, "x", "eliminant 1", "t");
        text(1, "1", "eliminant 1", "1");
    }

    /** "its TERMS from the greatest power product on", "then x, y, z in this order" */
    private static void orderOfTerms() {
        rest(3, "0", "1+z+y+x", "x+y+z+1");
        rest(3, "0", "z2+yz+y2+xz+xy+x2", "x2+xy+y2+xz+yz+z2");
        rest(3, "0", "zyx", "xyz");
        rest(3, "0", "z3+x2+y2z+xz2+y3", "y3+y2z+xz2+z3+x2");
        rest(2, "0", "y9y9y2+x9x9x2+x9x9x1y+1", "x20+x19y+y20+1");
    }

    /** "0 for none" */
    private static void none() {
        rest(2, "0", "0", "0");
        rest(2, "0", "x-x", "0");
        rest(2, "1", "7x9y9", "0");
        rest(1, "3x-1", "3x-1", "0");
        rest(1, "3x-1", "0", "0");
        text(1, "1", "fraction 0", "0");
        text(1, "1", "fraction 1", "0");
        text(2, "x;3y-1", "fraction 1", "0");
        text(1, "x", "floor 0 1 128", "0");
    }

    /** "then / and the divisor (above 0), which is left out, with its /, if it is 1" */
    private static void divisorOne() {
        rest(1, "2x-1", "2x", "1");
        rest(2, "3x2-y;y2-2", "x2y+x", "3x+2/3");
        rest(1, "2x-1", "x", "1/2");
        rest(1, "2x+1", "x", "-1/2");
        rest(1, "-2x-1", "x", "-1/2");
        rest(1, "2x-1", "x+x", "1");
        rest(1, "2x2-1", "2x2+x", "x+1");
        rest(1, "2x2-1", "x2+x", "2x+1/2");
        text(2, "x;2y-1", "fraction 2", "1/2");
        text(2, "x;2y-2", "fraction 2", "1");
        text(2, "2x-1;2y-1", "fraction 2", "1");
        rest(1, "10x-1", "x9x9x2", "1/1" + "0".repeat(20));
    }

    /** "the POLYNOMIAL of whole coefficients without a factor that the divisor has too" */
    private static void commonFactors() {
        rest(1, "4x2-2", "x2", "1/2");
        rest(1, "6x2-1", "2x2", "1/3");
        rest(1, "6x2-1", "3x2+3x3", "x+1/2");
        rest(1, "6x2-1", "2x2+x", "3x+1/3");
        rest(1, "6x2-1", "6x2+6x", "6x+1");
        rest(1, "6x2-5", "x2+x3", "5x+5/6");
        rest(2, "4x-y;9y2-1", "6x2", "1/24");
        text(2, "3x;7y-14", "fraction 2", "2");
    }

    /** "How many bytes the TEXT has", "Byte i of it; -1 for none" */
    private static void lengthAndLetter() {
        String[] texts = {"1", "x", "x2", "-x", "12x9-7y+1"};
        for (String text : texts) {
            Run run = new Run("tape 0", "solve", "tape " + text);
            H.name("length and letter of " + text);
            H.due("rest", run.play("rest"), text.length());
            H.due("length", run.call("length"), text.length());
            for (int i = 0; i < text.length(); i++) {
                H.due("letter " + i, run.call("letter", i), (int) text.charAt(i));
            }
            int size = text.length();
            for (int i : new int[] {LEAST, LEAST + 1, -size, -1, size, size + 1, 255, 256, 1 << 16, GREATEST}) {
                H.due("letter " + i, run.call("letter", i), -1);
                H.due("STATUS stays", run.status(), 0);
            }
            H.due("length again", run.call("length"), size);
        }
        H.name("no text");
        Run run = new Run();
        H.due("length", run.call("length"), 0);
        for (int i : new int[] {LEAST, -1, 0, 1, GREATEST}) {
            H.due("letter " + i, run.call("letter", i), -1);
        }
        H.name("a text longer than the rows it begins with");
        run = new Run("tape 9999x3-9998y2-1;9997y3-x-1", "solve", "tape x9x9x2");
        int length = run.play("rest");
        H.due("long", length > 256, true);
        H.due("its last byte is a digit", Character.isDigit(run.call("letter", length - 1)), true);
        H.due("none behind it", run.call("letter", length), -1);
    }

    /** A shorter text leaves nothing of a longer one, and a refused call leaves the TEXT. */
    private static void writingTakesThePlaceOfTheText() {
        H.name("one text after another");
        Run run = new Run("tape x2+y2-25;xy-12", "solve");
        H.due("poly 2", run.written("poly 2"), "y3+12x-25y");
        H.due("stair 0", run.written("stair 0"), "1");
        H.due("letter 1", run.call("letter", 1), -1);
        H.due("eliminant 0", run.written("eliminant 0"), "t4-25t2+144");
        H.due("eliminant 3 is refused", run.play("eliminant 3"), -1);
        H.due("the TEXT stays", run.text(), "t4-25t2+144");
        for (String call : new String[] {"variables 3", "tape x2-1;y;z", "solve", "basis", "stairs", "zeros", "form", "real",
            "multiplicity 0", "rank 0 1", "exact 0 1 3", "apart", "tape x", "sign 0", "place", "status", "digest"}) {
            run.play(call);
            H.due("after " + call + " the TEXT stays", run.call("length"), 11);
        }
        H.due("floor", run.written("floor 0 1 3"), "-8");
        run.play("tape ?");
        H.due("rest with a FAULT", run.play("rest"), -1);
        H.due("the TEXT stays", run.text(), "-8");
        run.play("tape z");
        H.due("rest", run.written("rest"), "0");
    }

    private static int digestOf(String text, int... more) {
        BigInteger d = BigInteger.valueOf(23);
        BigInteger by = BigInteger.valueOf(31);
        for (int i = 0; i < text.length(); i++) {
            d = d.multiply(by).add(BigInteger.valueOf(text.charAt(i)));
        }
        for (int x : more) {
            d = d.multiply(by).add(BigInteger.valueOf(x));
        }
        // The lowest 32 bits: that is what wrapping leaves.
        return d.intValue();
    }

    /** "the TEXT's bytes, how many are on the TAPE, n; if a SYSTEM was solved that is not INFINITE: ..; else -1" */
    private static void digestOfEachPart() {
        digest("nothing", new Run(), "", 0, 2, -1);
        digest("one variable", new Run("variables 1"), "", 0, 1, -1);
        digest("three variables", new Run("variables 3"), "", 0, 3, -1);
        digest("refused variables", new Run("variables 4"), "", 0, 2, -1);
        digest("a byte", new Run("tape x"), "", 1, 2, -1);
        digest("a full TAPE", new Run("tape " + " ".repeat(800)), "", 800, 2, -1);
        digest("a point", new Run("tape x;y", "solve"), "", 0, 2, 1, 1, 0, 1);
        digest("no ZEROS", new Run("tape 1", "solve"), "", 0, 2, 0, 0, 0, 0);
        digest("none real", new Run("tape x2+1;y2+1", "solve"), "", 0, 2, 4, 4, 2, 0);
        digest("nine", new Run("tape x3-x;y3-y", "solve"), "", 0, 2, 9, 9, 3, 9);
        digest("a ninefold one", new Run("tape x3;y3", "solve"), "", 0, 2, 9, 1, 0, 1);
        digest("INFINITE", new Run("tape x", "solve"), "", 0, 2, -1);
        digest("INFINITE, no BASIS", new Run("tape 0", "solve"), "", 0, 2, -1);
        digest("INFINITE with a TEXT", new Run("tape x", "solve", "poly 0"), "x", 0, 2, -1);
        digest("gone", new Run("tape x;y", "solve", "poly 0", "variables 2"), "y", 0, 2, -1);
        digest("after a FAULT", new Run("tape x;y", "solve", "tape ?", "solve"), "", 0, 2, 1, 1, 0, 1);
        digest("a FAULT at first", new Run("tape ?", "solve"), "", 0, 2, -1);
        digest("all", new Run("tape x2-2;y2-2", "solve", "stair 3", "tape x+?"), "xy", 3, 2, 4, 4, 2, 4);
    }

    private static void digest(String name, Run run, String text, int... more) {
        H.name("digest of " + name);
        int before = run.status();
        H.due("digest", run.call("digest"), digestOf(text, more));
        H.due("STATUS stays", run.status(), before);
        H.due("again", run.call("digest"), digestOf(text, more));
    }

    /** "d * 31 + x, wrapping": the texts' first few bytes lead beyond int, the longer ones beyond long. */
    private static void digestWraps() {
        boolean above = false;
        boolean below = false;
        for (int count = 1; count <= 20; count++) {
            String read = "x".repeat(count);
            String text = count == 1 ? "x" : "x" + count;
            Run run = new Run("tape 0", "solve", "tape " + read + "-9999y-9999", "rest");
            digest(text, run, text + "-9999y-9999", 0, 2, -1);
            above |= run.call("digest") > 0;
            below |= run.call("digest") < 0;
        }
        H.due("some are above 0", above, true);
        H.due("some are below 0", below, true);
        Run run = new Run("variables 1", "tape x-1000", "solve", "tape x9x9x2", "rest");
        digest("a long text", run, "1" + "0".repeat(60), 0, 1, 1, 1, 0, 1);
    }
}
