import java.util.ArrayList;
import java.util.Arrays;
import java.util.List;

/**
 * "A refused call answers -1 and changes nothing but this (and the TAPE, and PLACE, as told); of
 * several the first in the order 2, 3, 4, 5, 6, 1, 7": every call that takes a number or needs a
 * SYSTEM, in every state, with numbers at the bounds, beside them and at the ends of int. What is
 * refused must leave all that other calls show as a second object shows it that was not asked.
 */
final class UnchangedTest {
    private static final Harness H = new Harness();
    private static final int LEAST = Run.LEAST;
    private static final int GREATEST = Run.GREATEST;
    private static final int BATCH = 30;

    /** What a run of lines leads to, the TAPE being empty then. */
    private record State(int n, boolean solved, boolean infinite, int basis, int stairs, int real, int place,
            String... lines) {
    }

    private record Call(String name, int... numbers) {
        @Override
        public String toString() {
            return name + Arrays.toString(numbers);
        }
    }

    private static final State[] STATES = {
        new State(2, false, false, 0, 0, 0, -1),
        new State(2, false, false, 0, 0, 0, 2, "tape x;?", "solve"),
        new State(2, false, false, 0, 0, 0, -1, "tape x-1;y", "solve", "poly 0", "variables 2"),
        new State(1, false, false, 0, 0, 0, -1, "tape xy", "solve", "poly 0", "variables 1"),
        new State(2, true, false, 2, 2, 2, -1, "tape x2-2;y-x", "solve", "poly 1"),
        new State(2, true, false, 2, 2, 2, 1, "tape x2-2;y-x", "solve", "stair 1", "tape x?", "solve"),
        new State(1, true, false, 1, 3, 3, -1, "variables 1", "tape x3-x", "solve"),
        new State(3, true, false, 3, 2, 2, -1, "variables 3", "tape x2-3;y-x;z+x", "solve", "floor 1 3 5"),
        new State(2, true, false, 2, 4, 1, 3, "tape x2;y2-2y+1", "solve", "tape 5x+", "rest"),
        new State(2, true, false, 1, 0, 0, -1, "tape 7", "solve", "poly 0"),
        new State(2, true, false, 2, 2, 0, -1, "tape x2+1;y", "solve"),
        new State(2, true, true, 1, 0, 0, -1, "tape xy-y", "solve", "poly 0"),
        new State(1, true, true, 0, 0, 0, -1, "variables 1", "tape 0", "solve"),
        new State(3, true, true, 2, 0, 0, 0, "variables 3", "tape x;y", "solve", "tape ;", "rest"),
        new State(2, true, true, 1, 0, 0, -1, "tape x;y", "solve", "fraction 0", "tape x-y", "solve"),
    };

    public static void main(String[] args) {
        String[] tapes = {"", "x-2", "x+?"};
        for (State state : STATES) {
            for (String tape : tapes) {
                everyCall(state, tape);
                reading(state, tape);
            }
        }
        feeds();
        H.end();
    }

    private static String[] with(State state, String tape) {
        List<String> lines = new ArrayList<>(List.of(state.lines));
        if (!tape.isEmpty()) {
            lines.add("tape " + tape);
        }
        return lines.toArray(new String[0]);
    }

    private static void everyCall(State state, String tape) {
        String[] lines = with(state, tape);
        List<Call> refused = new ArrayList<>();
        List<Call> taken = new ArrayList<>();
        for (Call call : calls(state, tape)) {
            (due(state, tape, call) == 0 ? taken : refused).add(call);
        }
        String shown = new Run(lines).shown();
        for (int from = 0; from < refused.size(); from += BATCH) {
            refuse(state, tape, lines, refused.subList(from, Math.min(from + BATCH, refused.size())), shown);
        }
        for (Call call : taken) {
            H.name(String.join(", ", lines));
            Run run = new Run(lines);
            H.due(call + " is not refused", run.call(call.name, call.numbers) >= 0, true);
            H.due(call + ", its status", run.status(), 0);
        }
    }

    private static void refuse(State state, String tape, String[] lines, List<Call> calls, String shown) {
        H.name(String.join(", ", lines));
        Run run = new Run(lines);
        int digest = run.call("digest");
        int length = run.call("length");
        H.due("place ahead of the calls", run.place(), state.place);
        for (Call call : calls) {
            H.due(call + ", its answer", run.call(call.name, call.numbers), -1);
            H.due(call + ", its status", run.status(), due(state, tape, call));
            H.due(call + ", place", run.place(), state.place);
            H.due(call + ", length", run.call("length"), length);
            H.due(call + ", digest", run.call("digest"), digest);
        }
        H.due("what is shown after " + calls, run.shown(), shown);
    }

    /** The STATUS that is due: the tests stand in the order of the document. */
    private static int due(State state, String tape, Call call) {
        int[] a = call.numbers;
        boolean wrongNumber = switch (call.name) {
            case "variables" -> a[0] < 1 || a[0] > 3;
            case "end" -> a[0] < 0 || a[0] > tape.length();
            case "floor", "exact" -> a[2] < 0 || a[2] > 128;
            default -> false;
        };
        if (wrongNumber) {
            return 2;
        }
        if (call.name.equals("variables") || call.name.equals("end")) {
            return 0;
        }
        if (!state.solved) {
            return 4;
        }
        boolean alsoOfInfinite = call.name.equals("basis") || call.name.equals("poly");
        if (state.infinite && !alsoOfInfinite) {
            return 5;
        }
        return absent(state, call) ? 6 : 0;
    }

    private static boolean absent(State state, Call call) {
        int[] a = call.numbers;
        return switch (call.name) {
            case "poly" -> a[0] < 0 || a[0] >= state.basis;
            case "stair" -> a[0] < 0 || a[0] >= state.stairs;
            case "eliminant", "fraction" -> a[0] < 0 || a[0] > state.n;
            case "multiplicity", "sign" -> a[0] < 0 || a[0] >= state.real;
            case "rank", "floor", "exact" -> a[0] < 0 || a[0] >= state.real || a[1] < 1 || a[1] > state.n;
            default -> false;
        };
    }

    private static List<Call> calls(State state, String tape) {
        List<Call> calls = new ArrayList<>();
        for (String name : List.of("basis", "stairs", "zeros", "form", "real", "apart")) {
            calls.add(new Call(name));
        }
        one(calls, "variables", LEAST, -1, 0, 1, 2, 3, 4, GREATEST);
        int size = tape.length();
        one(calls, "end", LEAST, -1, 0, Math.max(0, size - 1), size, size + 1, 799, 800, 801, GREATEST);
        one(calls, "poly", around(state.basis));
        one(calls, "stair", around(state.stairs));
        one(calls, "eliminant", LEAST, -1, 0, 1, 2, 3, 4, GREATEST);
        one(calls, "fraction", LEAST, -1, 0, 1, 2, 3, 4, GREATEST);
        one(calls, "multiplicity", around(state.real));
        for (int j : around(state.real)) {
            for (int v : new int[] {LEAST, -1, 0, 1, 2, 3, 4, GREATEST}) {
                calls.add(new Call("rank", j, v));
                for (int k : new int[] {LEAST, -1, 0, 1, 127, 128, 129, GREATEST}) {
                    calls.add(new Call("floor", j, v, k));
                    calls.add(new Call("exact", j, v, k));
                }
            }
        }
        return calls;
    }

    private static void one(List<Call> calls, String name, int... numbers) {
        for (int number : numbers) {
            calls.add(new Call(name, number));
        }
    }

    /** The ends of int, and the first and last that there are with those beside them. */
    private static int[] around(int count) {
        return new int[] {LEAST, -1, 0, Math.max(1, count - 1), Math.max(1, count), count + 1, GREATEST};
    }

    /** rest() and sign(): refused ahead of reading they leave the TAPE and PLACE, else they take it. */
    private static void reading(State state, String tape) {
        String[] lines = with(state, tape);
        String shown = new Run(lines).shown();
        String shownWithoutTape = new Run(state.lines).shown();
        List<Call> calls = new ArrayList<>(List.of(new Call("rest")));
        one(calls, "sign", around(state.real));
        for (Call call : calls) {
            H.name(String.join(", ", lines) + ", " + call);
            int ahead = aheadOfReading(state, call);
            int status = ahead != 0 ? ahead : tape.equals("x-2") ? 0 : 1;
            Run run = new Run(lines);
            int answer = run.call(call.name, call.numbers);
            H.due("refused", answer == -1, status != 0);
            H.due("status", run.status(), status);
            // The texts "" and "x+?" have their FAULTS here:
            int fault = tape.isEmpty() ? 0 : 2;
            H.due("place", run.place(), ahead != 0 ? state.place : status == 1 ? fault : -1);
            H.due("the TAPE", run.onTape(), ahead != 0 ? tape.length() : 0);
            if (status != 0) {
                H.due("what is shown", run.shown(), ahead != 0 ? shown : shownWithoutTape);
            }
        }
    }

    private static int aheadOfReading(State state, Call call) {
        if (!state.solved) {
            return 4;
        }
        if (call.name.equals("rest")) {
            return 0;
        }
        return state.infinite ? 5 : absent(state, call) ? 6 : 0;
    }

    /** 3 is the one thing that feed() can be refused for, whatever the state is. */
    private static void feeds() {
        for (State state : STATES) {
            for (int over = 0; over < 2; over++) {
                List<String> lines = new ArrayList<>(List.of(state.lines));
                lines.add("tape x-y" + " ".repeat(777 + over));
                String[] full = lines.toArray(new String[0]);
                H.name(String.join(", ", state.lines) + ", " + (780 + over) + " bytes");
                Run run = new Run(full);
                int[] ends = {LEAST, -1, 0, 1, GREATEST};
                if (over == 0) {
                    H.due("feed", run.call("feed", ends), 800);
                    H.due("status", run.status(), 0);
                    continue;
                }
                H.due("feed", run.call("feed", ends), -1);
                H.due("status", run.status(), 3);
                H.due("place", run.place(), state.place);
                H.due("what is shown", run.shown(), new Run(full).shown());
            }
        }
    }
}
