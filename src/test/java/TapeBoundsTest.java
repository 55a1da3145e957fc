/** The bounds that the document names for the TAPE, the VARIABLES and a new object: promises 1 to 4. */
final class TapeBoundsTest {
    private static final Harness H = new Harness();
    private static final int LEAST = Run.LEAST;
    private static final int GREATEST = Run.GREATEST;
    private static final int BLANKS = 0x20202020;

    public static void main(String[] args) {
        newObject();
        variablesBounds();
        variablesFromNowOn();
        systemIsGone();
        everySizeOfTape();
        highestByteFirst();
        bytesComeBehind();
        feedTakesAnyInts();
        endBounds();
        endKeepsTheFirst();
        endLeavesAllElse();
        readingTakesAll();
        refusedAheadLeavesIt();
        H.end();
    }

    private static void due(Run run, String line, int answer, int status) {
        H.due(line, run.play(line), answer);
        H.due(line + ", its status", run.status(), status);
    }

    /** "No SYSTEM; two VARIABLES; the TAPE and TEXT are empty", and STATUS "0 at first". */
    private static void newObject() {
        H.name("a new object");
        H.due("status", new Run().status(), 0);
        H.due("place", new Run().place(), -1);
        H.due("length", new Run().call("length"), 0);
        H.due("on the TAPE", new Run().onTape(), 0);
        H.due("digest", new Run().call("digest"), ((23 * 31) * 31 + 2) * 31 - 1);
        for (int i : new int[] {LEAST, -1, 0, 1, GREATEST}) {
            H.due("letter(" + i + ")", new Run().call("letter", i), -1);
        }
        for (String call : new String[] {"basis", "poly 0", "stairs", "stair 0", "rest", "zeros", "form", "eliminant 0",
            "fraction 0", "real", "multiplicity 0", "rank 0 1", "floor 0 1 0", "exact 0 1 0", "apart", "sign 0"}) {
            due(new Run(), call, -1, 4);
        }
        due(new Run(), "end 0", 0, 0);
        due(new Run(), "end 1", -1, 2);
        due(new Run(), "feed 0 0 0 0 0", 20, 0);
        Run empty = new Run();
        due(empty, "solve", -1, 1);
        H.due("place", empty.place(), 0);
        due(new Run("tape x;y"), "solve", 1, 0);
        due(new Run("tape x;y;z"), "solve", -1, 1);
        due(new Run("tape x"), "solve", -1, 5);
    }

    /** "There are n VARIABLES from now on: n. (2: n is not 1 to 3)" */
    private static void variablesBounds() {
        H.name("variables, its bounds");
        for (int n : new int[] {LEAST, LEAST + 1, -3, -1, 0, 4, 5, 257, 65538, GREATEST}) {
            Run run = new Run();
            due(run, "variables " + n, -1, 2);
            H.due("still two", run.call("digest"), ((23 * 31) * 31 + 2) * 31 - 1);
        }
        for (int n = 1; n <= 3; n++) {
            Run run = new Run();
            due(run, "variables " + n, n, 0);
            H.due("so many", run.call("digest"), ((23 * 31) * 31 + n) * 31 - 1);
            due(run, "variables 0", -1, 2);
            due(run, "variables 4", -1, 2);
            H.due("still so many", run.call("digest"), ((23 * 31) * 31 + n) * 31 - 1);
        }
    }

    /** The first n of x, y, z may be read, the next one may not. */
    private static void variablesFromNowOn() {
        String[] one = {"x", "y", "z"};
        for (int n = 1; n <= 3; n++) {
            H.name(n + " variables");
            for (int v = 0; v < 3; v++) {
                Run run = new Run("variables " + n, "tape " + one[v], "solve");
                H.due("place of " + one[v], run.place(), v < n ? -1 : 0);
                H.due("basis", run.call("basis"), v < n ? 1 : -1);
                Run other = new Run("variables " + n, "tape 0", "solve", "tape 1+" + one[v], "rest");
                H.due("place in rest()", other.place(), v < n ? -1 : 2);
            }
            Run again = new Run("variables " + n, "variables 2", "tape x;y", "solve");
            H.due("two again", again.call("zeros"), 1);
        }
    }

    /** "The SYSTEM that was solved is gone", also if n is as before; not if the call is refused. */
    private static void systemIsGone() {
        String[] systems = {"x;y", "x2-2;y-x", "1", "x", "0"};
        for (String system : systems) {
            H.name("variables after " + system);
            for (int n = 1; n <= 3; n++) {
                Run run = new Run("tape " + system, "solve", "poly 0", "tape x+", "rest", "tape x");
                String text = run.text();
                int place = run.place();
                due(run, "variables " + n, n, 0);
                for (String call : new String[] {"basis", "poly 0", "stairs", "zeros", "real", "rest", "sign 0"}) {
                    due(run, call, -1, 4);
                }
                H.due("the TEXT stays", run.text(), text);
                H.due("the PLACE stays", run.place(), place);
                H.due("the TAPE stays", run.onTape(), 1);
            }
            Run run = new Run("tape " + system, "solve");
            int basis = run.call("basis");
            due(run, "variables 4", -1, 2);
            H.due("after a refused one", run.call("basis"), basis);
        }
    }

    /** A TAPE of so many bytes. */
    private static Run tapeOf(int size) {
        return new Run("tape " + " ".repeat(size));
    }

    /** "The TAPE has 800 bytes at most": from 780 bytes one more feed() fills it, from 781 none goes. */
    private static void everySizeOfTape() {
        for (int size = 0; size <= 800; size++) {
            H.name("a TAPE of " + size);
            Run run = tapeOf(size);
            H.due("feed", run.feedBlanks(), size <= 780 ? size + 20 : -1);
            H.due("status", run.status(), size <= 780 ? 0 : 3);
            H.due("on the TAPE", run.onTape(), size <= 780 ? size + 20 : size);
        }
        H.name("feeds one after the other");
        Run run = new Run();
        for (int i = 1; i <= 40; i++) {
            H.due("feed " + i, run.feedBlanks(), 20 * i);
        }
        for (int i = 0; i < 3; i++) {
            H.due("one more", run.feedBlanks(), -1);
            H.due("status", run.status(), 3);
        }
        due(run, "end 801", -1, 2);
        due(run, "end 800", 800, 0);
        due(run, "end 0", 0, 0);
        H.due("there is room again", run.feedBlanks(), 20);
    }

    /** "The bytes of five ints, the highest of each first": a byte that no text has tells where it is. */
    private static void highestByteFirst() {
        int[] strange = {0, 1, 9, 11, 31, 33, 127, 128, 255};
        for (int place = 0; place < 20; place++) {
            for (int letter : strange) {
                H.name("byte " + letter + " at " + place);
                int[] words = {BLANKS, BLANKS, BLANKS, BLANKS, BLANKS};
                int shift = 24 - 8 * (place % 4);
                words[place / 4] = words[place / 4] & ~(255 << shift) | letter << shift;
                Run run = new Run();
                H.due("feed", run.call("feed", words), 20);
                due(run, "solve", -1, 1);
                H.due("place", run.place(), place);
            }
        }
    }

    /** "come behind the TAPE": also behind what end() has left, and behind nothing. */
    private static void bytesComeBehind() {
        for (int size = 0; size <= 780; size += 13) {
            H.name("behind " + size);
            Run run = tapeOf(size);
            run.call("feed", BLANKS, BLANKS, 0x20202021, BLANKS, BLANKS);
            due(run, "solve", -1, 1);
            H.due("place", run.place(), size + 11);
        }
        H.name("behind what end() left");
        Run run = new Run("tape x-1??", "end 3", "tape ;y-2", "solve");
        H.due("zeros", run.call("zeros"), 1);
        H.due("the last byte of 800", new Run("tape " + " ".repeat(799) + "?", "solve").place(), 799);
    }

    /** Numbers at the ends of int are bytes like others. */
    private static void feedTakesAnyInts() {
        int[] ends = {LEAST, -1, 0, 1, GREATEST};
        int[] firstBytes = {128, 255, 0, 0, 127};
        for (int i = 0; i < ends.length; i++) {
            for (int at = 0; at < 5; at++) {
                H.name("feed with " + ends[i] + " at " + at);
                int[] words = {BLANKS, BLANKS, BLANKS, BLANKS, BLANKS};
                words[at] = ends[i];
                Run run = new Run();
                H.due("feed", run.call("feed", words), 20);
                H.due("status", run.status(), 0);
                due(run, "solve", -1, 1);
                H.due("its first byte, " + firstBytes[i] + ", is no byte of a text", run.place(), 4 * at);
            }
        }
    }

    /** "The TAPE keeps its first n bytes: n. (2: below 0, or it has not so many)" */
    private static void endBounds() {
        for (int size : new int[] {0, 1, 2, 19, 20, 21, 780, 799, 800}) {
            H.name("end on a TAPE of " + size);
            for (int n : new int[] {LEAST, LEAST + 1, -2, -1, size + 1, size + 2, 801, 1 << 16, GREATEST}) {
                Run run = tapeOf(size);
                due(run, "end " + n, -1, 2);
                H.due("on the TAPE", run.onTape(), size);
            }
            for (int n : new int[] {0, 1, size - 1, size}) {
                if (n >= 0 && n <= size) {
                    Run run = tapeOf(size);
                    due(run, "end " + n, n, 0);
                    H.due("on the TAPE", run.onTape(), n);
                    due(run, "end " + (n + 1), -1, 2);
                    due(run, "end " + n, n, 0);
                }
            }
        }
    }

    /** What is kept are the first bytes, and they are as they were. */
    private static void endKeepsTheFirst() {
        String text = "x-1;y-2?;x-3";
        for (int n = 0; n <= text.length(); n++) {
            H.name("end(" + n + ") of " + text);
            Run run = new Run("tape " + text, "end " + n);
            Run other = n == 0 ? new Run() : new Run("tape " + text.substring(0, n));
            H.due("solve", run.play("solve"), other.play("solve"));
            H.due("status", run.status(), other.status());
            H.due("place", run.place(), other.place());
            H.due("what is shown", run.shown(), other.shown());
        }
    }

    private static void endLeavesAllElse() {
        H.name("end leaves all else");
        String[] lines = {"tape x2-2;y-x", "solve", "poly 1", "tape x+", "rest"};
        for (int n : new int[] {LEAST, -1, 0, 1, 2, 3, 4, GREATEST}) {
            Run run = new Run(lines);
            run.play("tape x-y");
            boolean kept = n >= 0 && n <= 3;
            due(run, "end " + n, kept ? n : -1, kept ? 0 : 2);
            H.due("place", run.place(), 2);
            Run other = new Run(lines);
            if (!kept || n > 0) {
                other.play("tape " + "x-y".substring(0, kept ? n : 3));
            }
            H.due("what is shown", run.shown(), other.shown());
        }
    }

    /** "a call that reads it takes all of it: it is empty then, whatever comes of it" */
    private static void readingTakesAll() {
        String[][] runs = {
            {"solve", "x;y"}, {"solve", "x"}, {"solve", "0"}, {"solve", "1"}, {"solve", "x;"}, {"solve", "?"},
            {"solve", "x;?"}, {"solve", "x4"}, {"solve", "z"}, {"solve", "x;x;x;x;x;x"}, {"solve", "x+"},
            {"rest", "x"}, {"rest", "0"}, {"rest", "?"}, {"rest", "x;"}, {"rest", "x9x9x3"}, {"rest", "z"},
            {"sign 0", "x"}, {"sign 0", "0"}, {"sign 0", "?"}, {"sign 0", "x;"}, {"sign 0", "x9x9x3"}};
        for (String[] run : runs) {
            for (int size : new int[] {run[1].length(), 20, 799, 800}) {
                String text = run[1] + " ".repeat(size - run[1].length());
                emptyAfter(run[0], text, new Run("tape x-1;y", "solve"));
                if (!run[0].equals("sign 0")) {
                    emptyAfter(run[0], text, new Run("tape xy", "solve"));
                }
                if (run[0].equals("solve")) {
                    emptyAfter(run[0], text, new Run());
                }
            }
        }
        H.name("an empty TAPE");
        for (String call : new String[] {"solve", "rest", "sign 0"}) {
            Run run = new Run("tape x-1;y", "solve", call);
            H.due("status of " + call, run.status(), 1);
            H.due("place of " + call, run.place(), 0);
        }
    }

    private static void emptyAfter(String call, String text, Run run) {
        H.name(call + " of " + text.trim() + " with " + text.length() + " bytes");
        H.due("tape", run.tape(text), text.length());
        run.play(call);
        H.due("on the TAPE", run.onTape(), 0);
        due(run, "end 1", -1, 2);
        due(run, "end 0", 0, 0);
        H.due("feed", run.feedBlanks(), 20);
    }

    /** "(a call that is refused ahead of that leaves it)" */
    private static void refusedAheadLeavesIt() {
        String[][] states = {{}, {"tape x;y", "solve", "variables 2"}};
        for (String[] state : states) {
            left(4, "rest", state);
            left(4, "sign 0", state);
        }
        left(5, "sign 0", "tape xy", "solve");
        left(6, "sign 1", "tape x;y", "solve");
        left(6, "sign -1", "tape x;y", "solve");
        left(6, "sign " + LEAST, "tape x;y", "solve");
        left(6, "sign " + GREATEST, "tape x;y", "solve");
        left(6, "sign 0", "tape 1", "solve");
        left(6, "sign 0", "tape x2+1;y", "solve");
    }

    private static void left(int status, String call, String... lines) {
        for (String text : new String[] {"", "x", "x-2", "?", "x" + " ".repeat(798) + "?", "x" + " ".repeat(799)}) {
            H.name(String.join(", ", lines) + ", " + call + " with " + text.trim());
            Run run = new Run(lines);
            Run other = new Run(lines);
            run.tape(text);
            other.tape(text);
            due(run, call, -1, status);
            H.due("on the TAPE", run.onTape(), text.length());
            H.due("what is shown", run.shown(), other.shown());
            due(run, "end 1", -1, 2);
        }
    }
}
