/** Promises 5 and 6, and how rest() and sign() read: what is taken, and each FAULT with its PLACE. */
final class ReadTest {
    private static final Harness H = new Harness();

    public static void main(String[] args) {
        good();
        faultsOfSystems();
        faultsOfPolynomials();
        placeAndTape();
        H.end();
    }

    private static void same(int n, String text, String like) {
        RealSolver s = H.fresh(text);
        H.solve(n, like);
        int count = s.basis();
        StringBuilder want = new StringBuilder();
        for (int i = 0; i < count; i++) {
            want.append(H.written(s.poly(i))).append(' ');
        }
        int digest = s.digest();
        H.fresh(text);
        H.solve(n, text);
        RealSolver t = H.solver;
        H.due("place", t.place(), -1);
        H.due("basis", t.basis(), count);
        StringBuilder got = new StringBuilder();
        for (int i = 0; i < count; i++) {
            got.append(H.written(t.poly(i))).append(' ');
        }
        H.due("polynomials", got, want);
        H.due("digest", t.digest(), digest);
    }

    private static void good() {
        same(2, "+x+y-3;-x+y-1;", "x+y-3;x-y+1");
        same(2, " x \n2 +\n1 0 y-0 ; 3 x 0 y3 ", "x2+10y;3y3");
        same(2, "xx-xyx0+0003;yyy-x1y1", "x2-xy+3;y3-xy");
        same(2, "x+x+x-2x-3+1;5y-4y-y+y", "x-2;y");
        same(1, "9999x6-9999", "x6-1");
        same(3, "xy-1;yz-1;zx-1;x0y0z0x0-1;0", "xy-1;yz-1;xz-1");
        same(2, "0x3-y2+1;x-x+x2", "y2-1;x2");
        same(2, "1;2;3;4;5;", "1");
        same(1, "x3x3-x2x2x1x1", "0");
    }

    private static void fault(int n, String text, int place) {
        RealSolver s = H.fresh("fault in '" + text.replace("\n", "\\n") + "', n " + n);
        H.due("solve", H.solve(n, text), -1);
        H.due("status", s.status(), 1);
        H.due("place", s.place(), place);
        H.due("the tape is taken", s.end(1), -1);
        H.due("no system", s.basis(), -1);
        H.due("status", s.status(), 4);
    }

    private static void faultsOfSystems() {
        fault(2, "", 0);
        fault(2, "   ", 3);
        fault(2, "\n", 1);
        fault(2, ";", 0);
        fault(2, "x;;", 2);
        fault(2, "x;  ;", 4);
        fault(2, "+", 1);
        fault(2, "x+", 2);
        fault(2, "x- \n ", 5);
        fault(2, "x+;y", 2);
        fault(2, "++x", 1);
        fault(2, "x+-y", 2);
        fault(2, "12345", 4);
        fault(2, "1 2 3 4 5x", 8);
        fault(2, "x12", 2);
        fault(2, "x 1 2", 4);
        fault(2, "x2 3", 3);
        fault(2, "3*x", 1);
        fault(2, "x^2", 1);
        fault(2, "X", 0);
        fault(2, "w", 0);
        fault(2, "x\u0000", 1);
        fault(2, "x\u00ff", 1);
        fault(2, "x\ty", 1);
        fault(2, "x=y", 1);
        fault(2, "x/2", 1);
        fault(1, "y", 0);
        fault(1, "x6+xy9", 4);
        fault(2, "z", 0);
        fault(2, "x3-3 z", 5);
        fault(1, "x7", 0);
        fault(1, "x6-x3 x4", 3);
        fault(2, "x4", 0);
        fault(2, "1+ -", 3);
        fault(2, "x-  2x2y2;x", 4);
        fault(2, "x2yy", 0);
        fault(2, "0x4", 0);
        fault(3, "xyz", 0);
        fault(3, "x2-y2z", 3);
        fault(3, "x3", 0);
        // A TERM of too great a DEGREE is told when all of it was met,
        fault(2, "1+x9?", 2);
        fault(2, "1+x99", 2);
        fault(2, "1+x9;;", 2);
        fault(2, "1+x9y", 2);
        // ahead of which another VARIABLE is.
        fault(2, "1+x9z", 4);
        fault(1, "x9y", 2);
        fault(2, "x;x;x;x;x;x", 10);
        fault(2, "x;x;x;x;x; \n+x4", 12);
        fault(2, "x;x;x;x;x;;", 10);
        fault(2, "x;x;x;x;x;?", 10);
        fault(2, "x;x;x;x;x?;x", 9);
        fault(2, "x;x;x;x;x4;x", 8);
    }

    private static void faultOfOne(int n, String system, String text, int place) {
        RealSolver s = H.fresh("fault in '" + text + "', n " + n);
        H.solve(n, system);
        s.poly(0);
        String before = H.text();
        for (int i = 0; i < 2; i++) {
            H.feed(text);
            H.due("answer", i == 0 ? s.rest() : s.sign(0), -1);
            H.due("status", s.status(), 1);
            H.due("place", s.place(), place);
            H.due("the tape is taken", s.end(1), -1);
            H.due("the text stays", H.text(), before);
        }
        H.feed("1");
        H.due("rest", s.rest(), 1);
        H.due("place", s.place(), -1);
    }

    private static void faultsOfPolynomials() {
        faultOfOne(2, "x-1;y-2", "", 0);
        faultOfOne(2, "x-1;y-2", "x;", 1);
        faultOfOne(2, "x-1;y-2", "x;y", 1);
        faultOfOne(2, "x-1;y-2", "x+", 2);
        faultOfOne(2, "x-1;y-2", "x+z", 2);
        faultOfOne(2, "x-1;y-2", "x9x9x2+x9x9y3", 7);
        faultOfOne(2, "x-1;y-2", "x9x9x2+ x9x9y3/", 8);
        faultOfOne(2, "x-1;y-2", "1+x21", 4);
        faultOfOne(2, "x-1;y-2", "1/2", 1);
        faultOfOne(1, "x-1", "x9x9x2y", 6);
        faultOfOne(1, "x-1", "x9x9x3", 0);
        faultOfOne(3, "x-1;y;z", "x9y9z3", 0);
        faultOfOne(3, "x-1;y;z", "x9y9z2-00001", 11);
    }

    private static void placeAndTape() {
        RealSolver s = H.fresh("place");
        H.due("none yet", s.place(), -1);
        H.feed("x;y;?");
        s.solve();
        H.due("place", s.place(), 4);
        H.due("status stays", s.status(), 1);
        H.feed("x");
        H.refused("rest without a system", s::rest, 4);
        H.refused("sign without a system", () -> s.sign(0), 4);
        s.end(0);
        H.due("place after refused ones", s.place(), 4);
        H.solve(2, "x;y");
        H.due("place after a good one", s.place(), -1);
        H.feed("x?");
        s.rest();
        H.due("place of rest", s.place(), 1);
        H.feed("x");
        H.refused("sign of no zero", () -> s.sign(1), 6);
        H.due("sign", s.sign(0), 1);
        H.due("place after sign", s.place(), -1);
        H.feed("xy-");
        s.sign(0);
        H.due("place of sign", s.place(), 3);
        s.variables(2);
        H.due("place after variables", s.place(), 3);
        H.feed("xy");
        s.solve();
        H.due("place of an infinite one", s.place(), -1);
        H.due("its status", s.status(), 5);
        H.due("its basis", s.basis(), 1);
        H.feed("x;y;");
        H.due("solve", s.solve(), 1);
        H.feed("x;y;1;y-");
        H.due("a fault", s.solve(), -1);
        H.due("the one of before stays", s.zeros(), 1);
        H.due("its stairs", s.stairs(), 1);
        H.feed("x");
        H.due("infinite", s.solve(), -1);
        H.feed("x;y;1;y-");
        s.solve();
        H.due("the infinite one of before stays", s.basis(), 1);
        H.refused("its zeros", s::zeros, 5);
        H.feed("x;y-1");
        H.due("another one", s.solve(), 1);
        H.due("zeros", s.zeros(), 1);
    }
}
