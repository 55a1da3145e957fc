/** Promises 1 to 4 and 23 to 26: a new object, VARIABLES, the TAPE, the TEXT, STATUS, the digest. */
final class TapeTest {
    private static final Harness H = new Harness();

    public static void main(String[] args) {
        newObject();
        variables();
        feedAndEnd();
        textAndStatus();
        digest();
        H.end();
    }

    private static void newObject() {
        RealSolver s = H.fresh("new object");
        H.due("status", s.status(), 0);
        H.due("length", s.length(), 0);
        H.due("letter(0)", s.letter(0), -1);
        H.due("place", s.place(), -1);
        H.due("digest", s.digest(), ((23 * 31 + 0) * 31 + 2) * 31 - 1);
        H.due("end(0)", s.end(0), 0);
        H.refused("basis", s::basis, 4);
        H.refused("end(1)", () -> s.end(1), 2);
        H.feed("z");
        H.due("solve with two variables", s.solve(), -1);
        H.due("place", s.place(), 0);
        H.feed("y");
        H.due("solve", s.solve(), -1);
        H.due("status", s.status(), 5);
    }

    private static void variables() {
        RealSolver s = H.fresh("variables");
        int[] bad = {0, 4, -1, Integer.MAX_VALUE, Integer.MIN_VALUE};
        for (int n : bad) {
            H.refused("variables(" + n + ")", () -> s.variables(n), 2);
        }
        for (int n = 1; n <= 3; n++) {
            H.due("variables", s.variables(n), n);
            H.due("status", s.status(), 0);
            H.feed("x-1;" + (n > 1 ? "y-1;" : "") + (n > 2 ? "z-1" : ""));
            H.due("solve", s.solve(), 1);
            s.poly(0);
            String text = H.text();
            H.refused("variables(9)", () -> s.variables(9), 2);
            H.due("zeros stay after a refusal", s.zeros(), 1);
            H.feed("abc");
            H.due("variables again", s.variables(n), n);
            H.due("the text stays", H.text(), text);
            H.due("the tape stays", s.end(3), 3);
            H.refused("the system is gone", s::zeros, 4);
            H.refused("the basis is gone", s::basis, 4);
            s.end(0);
        }
    }

    private static void feedAndEnd() {
        RealSolver s = H.fresh("feed");
        for (int i = 1; i <= 40; i++) {
            H.due("feed", s.feed(0x78793132, -1, 0, 5, 0x20202020), 20 * i);
            H.due("status", s.status(), 0);
        }
        H.refused("feed beyond 800", () -> s.feed(1, 2, 3, 4, 5), 3);
        H.refused("end(801)", () -> s.end(801), 2);
        H.due("end(800)", s.end(800), 800);
        H.due("end(781)", s.end(781), 781);
        H.refused("feed to 801", () -> s.feed(1, 2, 3, 4, 5), 3);
        H.due("end(780)", s.end(780), 780);
        H.due("feed to 800", s.feed(1, 2, 3, 4, 5), 800);
        H.refused("end(-1)", () -> s.end(-1), 2);
        H.refused("end(least)", () -> s.end(Integer.MIN_VALUE), 2);
        H.due("end(4)", s.end(4), 4);
        H.refused("end(5)", () -> s.end(5), 2);
        H.due("the highest byte comes first: xy12 has a second digit", s.solve(), -1);
        H.due("place", s.place(), 3);
        H.refused("solve took the tape", () -> s.end(1), 2);
        s.feed(0x782d3120, 0x20202020, 0x20203b79, 0x20202020, 0x2d203220);
        H.due("all five ints are used", s.solve(), 1);
        s.floor(0, 2, 0);
        H.due("y", H.text(), "2");
        String full = "x-1" + " ".repeat(793) + ";y-1";
        H.feed(full.substring(0, 800));
        H.due("800 bytes are read", s.solve(), 1);
    }

    private static void textAndStatus() {
        RealSolver s = H.fresh("text");
        H.solve(2, "x2+y2-25;xy-12");
        H.due("length of no text", s.length(), 0);
        H.due("poly(0)", s.poly(0), 5);
        H.due("length", s.length(), 5);
        String letters = "xy-12";
        for (int i = 0; i < 5; i++) {
            H.due("letter", s.letter(i), (int) letters.charAt(i));
        }
        int[] none = {5, 6, -1, 1024, Integer.MAX_VALUE, Integer.MIN_VALUE};
        for (int i : none) {
            H.due("letter of none", s.letter(i), -1);
        }
        H.due("status", s.status(), 0);
        s.poly(7);
        H.due("status", s.status(), 6);
        s.length();
        s.letter(0);
        s.letter(-5);
        s.place();
        s.digest();
        H.due("status stays", s.status(), 6);
        H.due("the text stays", H.text(), "xy-12");
        s.stairs();
        H.due("status is that of the latest call", s.status(), 0);
    }

    private static int digestOf(String text, int... more) {
        int d = 23;
        for (char c : text.toCharArray()) {
            d = d * 31 + c;
        }
        for (int x : more) {
            d = d * 31 + x;
        }
        return d;
    }

    private static void digest() {
        RealSolver s = H.fresh("digest");
        H.solve(2, "x2-2;y2-2");
        H.due("finite", s.digest(), digestOf("", 0, 2, 4, 4, 2, 4));
        s.stair(3);
        H.due("with a text", s.digest(), digestOf("xy", 0, 2, 4, 4, 2, 4));
        H.feed("x2-2");
        H.due("with a tape", s.digest(), digestOf("xy", 4, 2, 4, 4, 2, 4));
        s.solve();
        H.due("infinite", s.digest(), digestOf("xy", 0, 2, -1));
        s.variables(3);
        H.due("no system", s.digest(), digestOf("xy", 0, 3, -1));
        H.solve(1, "x6-x2");
        H.due("repeated", s.digest(), digestOf("xy", 0, 1, 6, 5, 0, 3));
        H.solve(3, "1");
        H.due("no zeros", s.digest(), digestOf("xy", 0, 3, 0, 0, 0, 0));
        s.poly(9);
        s.digest();
        H.due("status stays", s.status(), 6);
    }
}
