/**
 * Promise 25 and the section on STATUS: each of its values, "of the latest call", the order "2, 3, 4,
 * 5, 6, 1, 7" where several hold, and the calls of which it is said that it stays.
 */
final class StatusBoundsTest {
    private static final Harness H = new Harness();
    private static final int LEAST = Run.LEAST;
    private static final int GREATEST = Run.GREATEST;
    private static final String POINT = "tape x;y";
    private static final String LINE = "tape x";

    public static void main(String[] args) {
        eachStatus();
        ofTheLatestCall();
        staysWithThose();
        twoAheadOfFour();
        twoAheadOfFive();
        twoAheadOfSix();
        fourAheadOfSix();
        fourAheadOfOne();
        fiveAheadOfSix();
        fiveAheadOfOne();
        sixAheadOfOne();
        wrongTextsInReach();
        H.end();
    }

    private static void due(Run run, String line, int answer, int status) {
        H.due(line, run.play(line), answer);
        H.due(line + ", its status", run.status(), status);
        H.due(line + ", its status again", run.status(), status);
    }

    /** Each value but 7, which CloseTest looks at. */
    private static void eachStatus() {
        H.name("each status");
        H.due("0 at first", new Run().status(), 0);
        due(new Run("tape ?"), "solve", -1, 1);
        due(new Run(), "variables 0", -1, 2);
        due(new Run("tape " + " ".repeat(781)), "feed 0 0 0 0 0", -1, 3);
        due(new Run(), "basis", -1, 4);
        due(new Run(LINE), "solve", -1, 5);
        due(new Run(POINT, "solve"), "poly 2", -1, 6);
        due(new Run(POINT, "solve"), "stair 1", -1, 6);
        due(new Run(POINT, "solve"), "multiplicity 1", -1, 6);
        due(new Run(POINT, "solve"), "rank 0 3", -1, 6);
        due(new Run(POINT), "solve", 1, 0);
    }

    private static void ofTheLatestCall() {
        String[] good = {"variables 2", "feed 0 0 0 0 0", "end 0", "basis", "poly 0", "stairs", "stair 0", "zeros", "form",
            "eliminant 0", "fraction 0", "real", "multiplicity 0", "rank 0 1", "floor 0 1 0", "exact 0 1 0", "apart"};
        String[] bad = {"variables 4", "end -1", "poly -1", "stair -1", "eliminant -1", "fraction -1", "multiplicity -1",
            "rank 0 0", "floor 0 1 -1", "exact 0 1 129"};
        for (String first : bad) {
            for (String then : good) {
                H.name(first + ", then " + then);
                Run run = new Run(POINT, "solve");
                H.due(first, run.play(first), -1);
                H.due("refused", run.status() != 0, true);
                H.due(then + " is not", run.play(then) >= 0, true);
                H.due("status", run.status(), 0);
                H.due("refused again, or there is no SYSTEM any more", run.play(first), -1);
                H.due("status", run.status() != 0, true);
            }
        }
        String[] reading = {"solve", "rest", "sign 0"};
        int[] answers = {0, 1, 2};
        for (int i = 0; i < reading.length; i++) {
            H.name("a refused call, then " + reading[i] + " of 1");
            due(new Run(POINT, "solve", "variables 9", "tape 1"), reading[i], answers[i], 0);
            due(new Run(POINT, "solve", "tape 1", "variables 9"), reading[i], answers[i], 0);
        }
        H.name("a call after an INFINITE one");
        Run run = new Run(LINE, "solve");
        H.due("status", run.status(), 5);
        due(run, "basis", 1, 0);
        due(run, "zeros", -1, 5);
    }

    /** "(STATUS stays.)": place, length, letter, digest; and status itself. */
    private static void staysWithThose() {
        String[][] states = {{}, {"tape ?", "solve"}, {"variables 0"}, {"tape " + " ".repeat(800), "feed 1 2 3 4 5"},
            {"basis"}, {LINE, "solve"}, {POINT, "solve", "poly 0", "poly 9"}};
        int[] statuses = {0, 1, 2, 3, 4, 5, 6};
        String[] calls = {"place", "length", "letter 0", "letter -1", "letter " + LEAST, "letter " + GREATEST, "letter 1",
            "status", "digest"};
        for (int i = 0; i < states.length; i++) {
            H.name("status " + statuses[i]);
            for (String call : calls) {
                Run run = new Run(states[i]);
                run.play(call);
                H.due("after " + call, run.status(), statuses[i]);
                run.play(call);
                run.play("digest");
                H.due("after " + call + " again", run.status(), statuses[i]);
            }
        }
    }

    private static void twoAheadOfFour() {
        H.name("2 and 4");
        for (int k : new int[] {LEAST, -1, 129, GREATEST}) {
            due(new Run(), "floor 0 1 " + k, -1, 2);
            due(new Run(), "exact 0 1 " + k, -1, 2);
            due(new Run(POINT, "solve", "variables 2"), "floor 0 1 " + k, -1, 2);
        }
        for (int k : new int[] {0, 128}) {
            due(new Run(), "floor 0 1 " + k, -1, 4);
            due(new Run(), "exact 0 1 " + k, -1, 4);
        }
    }

    private static void twoAheadOfFive() {
        H.name("2 and 5");
        for (int k : new int[] {LEAST, -1, 129, GREATEST}) {
            due(new Run(LINE, "solve"), "floor 0 1 " + k, -1, 2);
            due(new Run(LINE, "solve"), "exact 0 1 " + k, -1, 2);
        }
        for (int k : new int[] {0, 128}) {
            due(new Run(LINE, "solve"), "floor 0 1 " + k, -1, 5);
            due(new Run(LINE, "solve"), "exact 0 1 " + k, -1, 5);
        }
    }

    private static void twoAheadOfSix() {
        H.name("2 and 6");
        for (String zero : new String[] {"1 1", "0 0", "0 3", "-1 1", "9 9", LEAST + " 1", "0 " + GREATEST}) {
            for (int k : new int[] {LEAST, -1, 129, GREATEST}) {
                due(new Run(POINT, "solve"), "floor " + zero + " " + k, -1, 2);
                due(new Run(POINT, "solve"), "exact " + zero + " " + k, -1, 2);
            }
            for (int k : new int[] {0, 128}) {
                due(new Run(POINT, "solve"), "floor " + zero + " " + k, -1, 6);
                due(new Run(POINT, "solve"), "exact " + zero + " " + k, -1, 6);
            }
        }
    }

    private static final String[] ABSENT = {"stair 9", "eliminant 3", "eliminant -1", "fraction 3", "fraction -1",
        "multiplicity 1", "multiplicity -1", "rank 1 1", "rank 0 3", "rank 0 0", "rank -1 1", "floor 1 1 0", "floor 0 3 128",
        "exact 1 1 0", "exact 0 0 128", "sign 1", "sign -1"};

    private static void fourAheadOfSix() {
        H.name("4 and 6");
        for (String call : ABSENT) {
            due(new Run(), call, -1, 4);
            due(new Run(POINT, "solve", "variables 2"), call, -1, 4);
            due(new Run(POINT, "solve"), call, -1, 6);
        }
        due(new Run(), "poly 9", -1, 4);
        due(new Run(), "poly -1", -1, 4);
    }

    private static void fourAheadOfOne() {
        H.name("4 and 1");
        for (String call : new String[] {"rest", "sign 0", "sign 9"}) {
            Run run = new Run("tape ?");
            due(run, call, -1, 4);
            H.due("place", run.place(), -1);
            H.due("the TAPE", run.onTape(), 1);
            due(new Run(), call, -1, 4);
        }
    }

    private static void fiveAheadOfSix() {
        H.name("5 and 6");
        for (String call : ABSENT) {
            due(new Run(LINE, "solve"), call, -1, 5);
        }
        due(new Run(LINE, "solve"), "poly 1", -1, 6);
        due(new Run(LINE, "solve"), "poly -1", -1, 6);
    }

    private static void fiveAheadOfOne() {
        H.name("5 and 1");
        for (String call : new String[] {"sign 0", "sign 9"}) {
            Run run = new Run(LINE, "solve", "tape ?");
            due(run, call, -1, 5);
            H.due("place", run.place(), -1);
            H.due("the TAPE", run.onTape(), 1);
        }
        Run run = new Run(LINE, "solve", "tape x?");
        due(run, "rest", -1, 1);
        H.due("place", run.place(), 1);
        H.due("the TAPE", run.onTape(), 0);
    }

    private static void sixAheadOfOne() {
        H.name("6 and 1");
        for (String call : new String[] {"sign 1", "sign -1", "sign " + LEAST, "sign " + GREATEST}) {
            Run run = new Run(POINT, "solve", "tape ?");
            due(run, call, -1, 6);
            H.due("place", run.place(), -1);
            H.due("the TAPE", run.onTape(), 1);
        }
        Run run = new Run(POINT, "solve", "tape x?");
        due(run, "sign 0", -1, 1);
        H.due("place", run.place(), 1);
        H.due("the TAPE", run.onTape(), 0);
    }

    /** solve() of a text with a FAULT is refused for that, whatever SYSTEM its beginning would be. */
    private static void wrongTextsInReach() {
        H.name("1, not 5");
        due(new Run("tape x;?"), "solve", -1, 1);
        due(new Run(LINE, "solve", "tape x;?"), "solve", -1, 1);
        due(new Run(LINE, "solve", "tape xy"), "solve", -1, 5);
    }
}
