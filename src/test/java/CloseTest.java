import java.util.ArrayList;
import java.util.List;
import java.util.regex.Matcher;
import java.util.regex.Pattern;

/**
 * STATUS 7 of promise 21, and its bound: two REAL ZEROS that boxes of sides 2^-127, 2^-128 tell
 * apart, or that nothing so small does.
 *
 * <p>In these systems the first POLYNOMIAL is (b x - 1) (c y - 1), and the curve of the other two
 * passes the line where both factors are 0 at about 2^-128: so one ZERO has x = 1 / b, another one
 * y = 1 / c, and else they hardly differ. By how much was found by Newton's method with 1200 bits.
 */
final class CloseTest {
    private static final Harness H = new Harness();

    /** A system, with coefficients as great as it takes; b, c; and the least k that tells all apart. */
    private record Close(int b, int c, int level, String others) {
        String system() {
            return spread(b * c + "xy-" + b + "x-" + c + "y+1;" + others);
        }
    }

    private static final Close[] SYSTEMS = {
        new Close(398, 391, 127, "z2-43978z+128xz-33yz-17x2-101y2-117x+62y;"
                + "22734z2+9529z-30xz+81yz-169x2-80y2+9145x+9014y-46"),
        new Close(419, 418, 128, "z2+33681z-194xz+2yz-176x2+166y2-113x+183y;"
                + "-29685z2-6876z-131xz+100yz+187x2+207y2+9336x+9063y-44"),
        new Close(461, 448, 129, "z2-37156z+183xz+186yz-171x2+25y2-176x+135y;"
                + "26909z2-8990z+131xz-115yz+78x2+19y2+9220x+8951y-40"),
        new Close(467, 465, 130, "z2+47079z+192xz+158yz+137x2-194y2-189x-226y+1;"
                + "-21236z2+14318z+61xz+60yz-65x2+75y2+9482x+9174y-40"),
        new Close(691, 686, 139, "z2+182656z-220xz+260yz+312x2-221y2+126x+135y;"
                + "-131368z2+38799z-89xz-216yz+266x2-163y2+8827x+9128y-26")};

    public static void main(String[] args) {
        for (Close close : SYSTEMS) {
            H.name("zeros that " + close.level + " tells apart");
            apart(close);
            boxes(close);
            refusedChangesNothing(close);
            onlySmallOnes(close);
        }
        H.end();
    }

    /** A NUMBER has four digits at most: a greater coefficient is a sum of TERMS. */
    private static String spread(String system) {
        Matcher m = Pattern.compile("([+-]?)(\\d{5,})([xyz0-9]*)").matcher(system);
        return m.replaceAll(found -> {
            StringBuilder text = new StringBuilder();
            String sign = found.group(1);
            Matcher factors = Pattern.compile("(\\d{5,6}?)((?:[xyz]\\d?)+)").matcher(found.group(2) + found.group(3));
            if (!factors.matches()) {
                throw new IllegalStateException(found.group());
            }
            for (int left = Integer.parseInt(factors.group(1)); left > 0; left -= Math.min(left, 9999)) {
                text.append(text.length() == 0 ? sign : sign.isEmpty() ? "+" : sign);
                text.append(Math.min(left, 9999)).append(factors.group(2));
            }
            return text.toString();
        });
    }

    private static Run solved(Close close) {
        return new Run("variables 3", "tape " + close.system(), "solve");
    }

    /** "The least k by which all REAL ZEROS lie in unlike boxes. (4; 5; 7)" */
    private static void apart(Close close) {
        Run run = solved(close);
        boolean told = close.level <= 128;
        H.due("place", run.place(), -1);
        H.due("zeros", run.call("zeros"), 8);
        for (int i = 0; i < 2; i++) {
            H.due("apart", run.call("apart"), told ? close.level : -1);
            H.due("status", run.status(), told ? 0 : 7);
        }
        H.due("real", run.call("real") >= 4, true);
        H.due("status", run.status(), 0);
    }

    /** The numbers of the two, the one with x = 1 / b first. */
    private static List<Integer> closeOnes(Close close) {
        Run run = solved(close);
        int real = run.call("real");
        List<String> floors = new ArrayList<>();
        for (int j = 0; j < real; j++) {
            floors.add(boxOf(solved(close), j, 100));
        }
        List<Integer> found = new ArrayList<>();
        for (int j = 0; j < real; j++) {
            boolean twice = floors.indexOf(floors.get(j)) != floors.lastIndexOf(floors.get(j));
            run.tape(close.b + "x-1");
            if (run.call("sign", j) == 1 && twice) {
                found.add(0, j);
            } else if (twice) {
                found.add(j);
            }
        }
        return found;
    }

    private static String boxOf(Run run, int j, int k) {
        return run.written("floor " + j + " 1 " + k) + " " + run.written("floor " + j + " 2 " + k) + " "
                + run.written("floor " + j + " 3 " + k);
    }

    private static void boxes(Close close) {
        List<Integer> two = closeOnes(close);
        H.due("two are close", two.size(), 2);
        if (two.size() != 2) {
            return;
        }
        for (int k : new int[] {0, 99, 126, 127, 128}) {
            boolean alike = boxOf(solved(close), two.get(0), k).equals(boxOf(solved(close), two.get(1), k));
            H.due("their boxes by " + k + " are alike", alike, k < close.level);
        }
        Run run = solved(close);
        H.due("they are neighbours", Math.abs(two.get(0) - two.get(1)), 1);
        String[] texts = {close.b + "x-1", close.c + "y-1", "0", "1"};
        int[] first = {1, -1, 1, 2};
        int[] second = {-1, 1, 1, 2};
        for (int i = 0; i < texts.length; i++) {
            run.tape(texts[i]);
            int sign = run.call("sign", two.get(0));
            H.due("sign of " + texts[i], first[i] < 0 ? sign != 1 : sign == first[i], true);
            run.tape(texts[i]);
            sign = run.call("sign", two.get(1));
            H.due("sign of " + texts[i], second[i] < 0 ? sign != 1 : sign == second[i], true);
        }
        for (int v = 1; v <= 3; v++) {
            int difference = run.call("rank", two.get(0), v) - run.call("rank", two.get(1), v);
            H.due("the ranks of variable " + v + " differ by one", Math.abs(difference), 1);
            H.due("multiplicity", run.call("multiplicity", two.get(v % 2)), 1);
        }
    }

    /** "A refused call answers -1 and changes nothing but this" */
    private static void refusedChangesNothing(Close close) {
        String[] lines = {"variables 3", "tape " + close.system(), "solve", "poly 0", "tape x+", "rest", "tape x-y"};
        Run run = new Run(lines);
        int digest = run.call("digest");
        run.call("apart");
        int status = run.status();
        H.due("place", run.place(), 2);
        H.due("digest", run.call("digest"), digest);
        H.due("STATUS stays with these", run.status(), status);
        H.due("what is shown", run.shown(), new Run(lines).shown());
    }

    /** 4 and 5 come first: there is nothing to tell apart then. */
    private static void onlySmallOnes(Close close) {
        Run run = solved(close);
        run.tape("x");
        run.call("solve");
        H.due("of an INFINITE one", run.call("apart"), -1);
        H.due("status", run.status(), 5);
        run.call("variables", 3);
        H.due("of none", run.call("apart"), -1);
        H.due("status", run.status(), 4);
        run.tape("x-1;y;z");
        run.call("solve");
        H.due("of a point", run.call("apart"), 0);
        H.due("status", run.status(), 0);
    }
}
