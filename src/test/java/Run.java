/**
 * An object and the calls made on it, told as lines of text, so that the same calls can be made on
 * a second object and the two compared. A run never goes beyond the calls that the document
 * promises anything about.
 */
final class Run {
    static final int MOST_CALLS = 512;
    static final int LEAST = Integer.MIN_VALUE;
    static final int GREATEST = Integer.MAX_VALUE;

    private final RealSolver solver = new RealSolver();
    private int calls;

    Run(String... lines) {
        for (String line : lines) {
            play(line);
        }
    }

    /** A line is "tape" and a text that is put behind the TAPE, or a call's name and its numbers. */
    int play(String line) {
        if (line.startsWith("tape ")) {
            return tape(line.substring(5));
        }
        String[] words = line.split(" ");
        int[] numbers = new int[words.length - 1];
        for (int i = 0; i < numbers.length; i++) {
            numbers[i] = Integer.parseInt(words[i + 1]);
        }
        return call(words[0], numbers);
    }

    int call(String name, int... a) {
        calls++;
        if (calls > MOST_CALLS) {
            throw new IllegalStateException("a run of more than " + MOST_CALLS + " calls");
        }
        return switch (name) {
            case "variables" -> solver.variables(a[0]);
            case "feed" -> solver.feed(a[0], a[1], a[2], a[3], a[4]);
            case "end" -> solver.end(a[0]);
            case "solve" -> solver.solve();
            case "place" -> solver.place();
            case "basis" -> solver.basis();
            case "poly" -> solver.poly(a[0]);
            case "stairs" -> solver.stairs();
            case "stair" -> solver.stair(a[0]);
            case "rest" -> solver.rest();
            case "zeros" -> solver.zeros();
            case "form" -> solver.form();
            case "eliminant" -> solver.eliminant(a[0]);
            case "fraction" -> solver.fraction(a[0]);
            case "real" -> solver.real();
            case "multiplicity" -> solver.multiplicity(a[0]);
            case "rank" -> solver.rank(a[0], a[1]);
            case "floor" -> solver.floor(a[0], a[1], a[2]);
            case "exact" -> solver.exact(a[0], a[1], a[2]);
            case "apart" -> solver.apart();
            case "sign" -> solver.sign(a[0]);
            case "length" -> solver.length();
            case "letter" -> solver.letter(a[0]);
            case "status" -> solver.status();
            case "digest" -> solver.digest();
            default -> throw new IllegalArgumentException("no call is named " + name);
        };
    }

    /** Puts a text behind the TAPE, which must have room for it; answers how many bytes it has then. */
    int tape(String text) {
        int size = 0;
        for (int i = 0; i < text.length(); i += 20) {
            int[] words = new int[5];
            for (int b = 0; b < 20; b++) {
                int letter = i + b < text.length() ? text.charAt(i + b) : '?';
                words[b / 4] = words[b / 4] << 8 | letter;
            }
            size = call("feed", words);
            if (size < 0) {
                throw new IllegalStateException("the TAPE has no room for " + text);
            }
        }
        int over = (20 - text.length() % 20) % 20;
        return over == 0 ? size : call("end", size - over);
    }

    int feedBlanks() {
        return call("feed", 0x20202020, 0x20202020, 0x20202020, 0x20202020, 0x20202020);
    }

    /** How many bytes are on the TAPE, which stays as it is; STATUS does not. */
    int onTape() {
        int after = feedBlanks();
        if (after >= 0) {
            return call("end", after - 20);
        }
        for (int n = 800; n > 780; n--) {
            if (call("end", n) == n) {
                return n;
            }
        }
        return -1;
    }

    int status() {
        return call("status");
    }

    int place() {
        return call("place");
    }

    String text() {
        int length = call("length");
        StringBuilder text = new StringBuilder();
        for (int i = 0; i < length; i++) {
            text.append((char) call("letter", i));
        }
        return text.toString();
    }

    /** The TEXT that a call writes, if its answer is how long that is; else what went wrong. */
    String written(String line) {
        int answer = play(line);
        int length = call("length");
        return answer == length ? text() : line + " answered " + answer + " and the TEXT has " + length;
    }

    /** The same for a TEXT of any size: as many objects are made as it takes to read it. */
    static String longText(String call, String... lines) {
        StringBuilder text = new StringBuilder();
        int length = 0;
        do {
            Run run = new Run(lines);
            int answer = run.play(call);
            length = run.call("length");
            if (answer != length) {
                return call + " answered " + answer + " and the TEXT has " + length;
            }
            for (int left = 400; left > 0 && text.length() < length; left--) {
                text.append((char) run.call("letter", text.length()));
            }
        } while (text.length() < length);
        return text.toString();
    }

    /** What all calls show, but for STATUS and PLACE. At last the TAPE is read, and so is gone. */
    String shown() {
        StringBuilder out = new StringBuilder();
        tell(out, "length");
        tell(out, "digest");
        int basis = tell(out, "basis");
        for (int i = 0; i < basis; i++) {
            tellText(out, "poly", i);
        }
        int stairs = tell(out, "stairs");
        for (int i = 0; i < stairs; i++) {
            tellText(out, "stair", i);
        }
        tell(out, "zeros");
        tell(out, "form");
        for (int v = 0; v <= 3; v++) {
            tellText(out, "eliminant", v);
            tellText(out, "fraction", v);
        }
        tellReal(out);
        tell(out, "apart");
        tellTape(out);
        return out.toString();
    }

    private void tellReal(StringBuilder out) {
        int real = tell(out, "real");
        for (int j = 0; j < real; j++) {
            tell(out, "multiplicity", j);
            for (int v = 1; v <= 3; v++) {
                tell(out, "rank", j, v);
                tellText(out, "floor", j, v, 0);
                tellText(out, "floor", j, v, 128);
                tell(out, "exact", j, v, 0);
                tell(out, "exact", j, v, 128);
            }
        }
    }

    /** rest() shows the bytes of the TAPE if there is a SYSTEM, solve() if there is none. */
    private void tellTape(StringBuilder out) {
        int rest = tellText(out, "rest");
        if (rest < 0 && status() == 4) {
            tell(out, "solve");
            int basis = tell(out, "basis");
            for (int i = 0; i < basis; i++) {
                tellText(out, "poly", i);
            }
        }
        tell(out, "place");
        tell(out, "digest");
    }

    private int tell(StringBuilder out, String name, int... numbers) {
        int answer = call(name, numbers);
        out.append(name).append(java.util.Arrays.toString(numbers)).append('=').append(answer);
        boolean setsStatus = !name.equals("digest") && !name.equals("place");
        out.append(answer < 0 && setsStatus ? " status " + status() : "").append(", ");
        return answer;
    }

    private int tellText(StringBuilder out, String name, int... numbers) {
        int answer = tell(out, name, numbers);
        if (answer >= 0) {
            tell(out, "digest");
        }
        return answer;
    }
}
