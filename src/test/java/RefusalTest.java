import java.util.function.IntSupplier;

/** STATUS of every call in every state, and the order 2, 3, 4, 5, 6, 1, 7 where several hold. */
final class RefusalTest {
    private static final Harness H = new Harness();

    public static void main(String[] args) {
        unsolved();
        infinite();
        absent();
        order();
        successSetsStatus();
        H.end();
    }

    private static void refusedAll(int status, Object... callsAndRuns) {
        for (int i = 0; i < callsAndRuns.length; i += 2) {
            H.refused((String) callsAndRuns[i], (IntSupplier) callsAndRuns[i + 1], status);
        }
    }

    private static void ofZeros(RealSolver s, int status) {
        refusedAll(status,
                "stairs", (IntSupplier) s::stairs,
                "stair", (IntSupplier) () -> s.stair(0),
                "zeros", (IntSupplier) s::zeros,
                "form", (IntSupplier) s::form,
                "eliminant", (IntSupplier) () -> s.eliminant(0),
                "fraction", (IntSupplier) () -> s.fraction(0),
                "real", (IntSupplier) s::real,
                "multiplicity", (IntSupplier) () -> s.multiplicity(0),
                "rank", (IntSupplier) () -> s.rank(0, 1),
                "floor", (IntSupplier) () -> s.floor(0, 1, 0),
                "exact", (IntSupplier) () -> s.exact(0, 1, 0),
                "apart", (IntSupplier) s::apart,
                "sign", (IntSupplier) () -> s.sign(0));
    }

    private static void unsolved() {
        RealSolver s = H.fresh("no system");
        H.feed("x?");
        ofZeros(s, 4);
        refusedAll(4,
                "basis", (IntSupplier) s::basis,
                "poly", (IntSupplier) () -> s.poly(0),
                "rest", (IntSupplier) s::rest);
        H.due("the tape is still there", s.end(2), 2);
    }

    private static void infinite() {
        RealSolver s = H.fresh("infinite");
        H.due("solve", H.solve(2, "xy-y"), -1);
        H.due("status", s.status(), 5);
        H.feed("x?");
        ofZeros(s, 5);
        H.due("basis", s.basis(), 1);
        H.due("status", s.status(), 0);
        H.due("poly", H.written(s.poly(0)), "xy-y");
        H.refused("poly(1)", () -> s.poly(1), 6);
        H.due("the fault of rest", s.rest(), -1);
        H.due("status", s.status(), 1);
        H.due("rest", H.rest("x2y"), "y");
    }

    private static void absent() {
        int[] bad = {-1, 2, 3, 4, 5, 6, 9, 10, 36, 1000, Integer.MAX_VALUE, Integer.MIN_VALUE};
        for (int i : bad) {
            RealSolver s = H.fresh("absent");
            H.solve(2, "x2-2;y-x");
            H.feed("x?");
            refusedAll(6,
                    "poly", (IntSupplier) () -> s.poly(i),
                    "stair", (IntSupplier) () -> s.stair(i),
                    "multiplicity", (IntSupplier) () -> s.multiplicity(i),
                    "rank of j", (IntSupplier) () -> s.rank(i, 1),
                    "floor of j", (IntSupplier) () -> s.floor(i, 2, 128),
                    "exact of j", (IntSupplier) () -> s.exact(i, 2, 0),
                    "sign of j", (IntSupplier) () -> s.sign(i));
            int v = i == 2 ? 0 : i;
            refusedAll(6,
                    "rank of v", (IntSupplier) () -> s.rank(0, v),
                    "floor of v", (IntSupplier) () -> s.floor(0, v, 0),
                    "exact of v", (IntSupplier) () -> s.exact(0, v, 0));
            if (i != 2) {
                H.refused("eliminant", () -> s.eliminant(i), 6);
                H.refused("fraction", () -> s.fraction(i), 6);
            }
            H.due("the fault of sign", s.sign(0), -1);
            H.due("status", s.status(), 1);
        }
    }

    private static void order() {
        RealSolver s = H.fresh("order");
        // 2 ahead of 4, of 5 and of 6
        H.refused("2, not 4", () -> s.floor(0, 1, 129), 2);
        H.refused("2, not 4", () -> s.exact(0, 1, -1), 2);
        H.solve(2, "x");
        H.refused("2, not 5", () -> s.floor(0, 1, 129), 2);
        H.refused("2, not 5", () -> s.exact(0, 1, -1), 2);
        // 5 ahead of 6 and of 1
        H.refused("5, not 6", () -> s.stair(99), 5);
        H.refused("5, not 6", () -> s.eliminant(99), 5);
        H.refused("5, not 6", () -> s.fraction(-1), 5);
        H.refused("5, not 6", () -> s.multiplicity(99), 5);
        H.refused("5, not 6", () -> s.rank(0, 99), 5);
        H.refused("5, not 6", () -> s.floor(99, 1, 0), 5);
        H.refused("5, not 6", () -> s.exact(0, 0, 0), 5);
        H.feed("?");
        H.refused("5, not 6, not 1", () -> s.sign(99), 5);
        s.end(0);
        H.solve(2, "x;y");
        H.refused("2, not 6", () -> s.floor(9, 9, 129), 2);
        H.refused("2, not 6", () -> s.exact(9, 9, 129), 2);
        H.feed("?");
        H.refused("6, not 1", () -> s.sign(1), 6);
        s.end(0);
        s.variables(2);
        // 4 ahead of 6 and of 1
        H.feed("?");
        H.refused("4, not 6", () -> s.poly(99), 4);
        H.refused("4, not 6", () -> s.stair(99), 4);
        H.refused("4, not 6", () -> s.eliminant(99), 4);
        H.refused("4, not 1", s::rest, 4);
        H.refused("4, not 6, not 1", () -> s.sign(99), 4);
        H.refused("4, not 6", () -> s.floor(99, 99, 0), 4);
        // a number ahead of the room
        H.refused("end", () -> s.end(2), 2);
    }

    private static void successSetsStatus() {
        RealSolver s = H.fresh("success");
        IntSupplier[] good = {() -> s.variables(2), () -> s.end(0), () -> H.solve(2, "x2-1;y"), s::basis,
            () -> s.poly(0), s::stairs, () -> s.stair(0), () -> s.end(0), s::zeros, s::form,
            () -> s.eliminant(0), () -> s.fraction(0), s::real, () -> s.multiplicity(0),
            () -> s.rank(0, 1), () -> s.floor(0, 1, 0), () -> s.exact(0, 1, 0), s::apart,
            () -> s.feed(0x78202020, 0x20202020, 0x20202020, 0x20202020, 0x20202020), s::rest,
            () -> H.sign("x", 0)};
        for (int i = 0; i < good.length; i++) {
            s.variables(9);
            H.due("status", s.status(), 2);
            int answer = good[i].getAsInt();
            H.due("call " + i + " is not refused", answer >= 0, true);
            H.due("status after call " + i, s.status(), 0);
        }
    }
}
