/**
 * "An object is used for at most 512 calls": all of them are answered as told, the last one too, and
 * of later ones nothing is told but that they end.
 */
final class LastCallTest {
    private static final Harness H = new Harness();
    private static final int MOST = Run.MOST_CALLS;

    public static void main(String[] args) {
        everyCallAsTheLast();
        solvedAgainAndAgain();
        beyondTheLast();
        H.end();
    }

    /** The calls of a run that ends with the 512th, which must answer as the same call does early on. */
    private static void everyCallAsTheLast() {
        String[] calls = {"variables 3", "feed 1 2 3 4 5", "end 1", "solve", "place", "basis", "poly 1", "stairs",
            "stair 1", "rest", "zeros", "form", "eliminant 2", "fraction 2", "real", "multiplicity 1", "rank 1 2",
            "floor 1 2 128", "exact 1 2 0", "apart", "sign 1", "length", "letter 0", "status", "digest"};
        String[] lines = {"tape x2-2;y+x", "solve", "poly 1", "tape x"};
        for (String call : calls) {
            H.name(call + " as the last of " + MOST);
            int made = 7;
            Run late = new Run(lines);
            for (; made < MOST; made++) {
                late.play(made % 2 == 0 ? "zeros" : "form");
            }
            Run early = new Run(lines);
            early.play("zeros");
            H.due("answer", late.play(call), early.play(call));
        }
    }

    private static void solvedAgainAndAgain() {
        H.name("solved again and again");
        Run run = new Run();
        String[] systems = {"x2-2;y+x", "x3-x;y3-y", "1", "x", "x;y"};
        int[] zeros = {2, 9, 0, -1, 1};
        for (int i = 0; i < 170; i++) {
            run.play("tape " + systems[i % 5]);
            H.due("solve " + i, run.play("solve"), zeros[i % 5]);
        }
    }

    private static void beyondTheLast() {
        H.name("beyond the last");
        RealSolver solver = new RealSolver();
        int ended = 0;
        for (int i = 0; i < MOST; i++) {
            solver.feed(0x782d313b, 0x792d3220, 0x20202020, 0x20202020, 0x20202020);
            solver.solve();
            solver.floor(0, 2, 128);
            solver.digest();
            ended += 4;
        }
        H.due("calls that ended, whatever they answered", ended, 4 * MOST);
    }
}
