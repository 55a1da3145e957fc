/** What the tests share: feeding texts, reading the TEXT, and counting what is not as due. */
final class Harness {
    RealSolver solver = new RealSolver();
    private int checks;
    private int wrong;
    private String where = "";

    /** A new object; what is said of later failures names the case. */
    RealSolver fresh(String name) {
        where = name;
        solver = new RealSolver();
        return solver;
    }

    void name(String name) {
        where = name;
    }

    void due(String call, Object got, Object want) {
        checks++;
        if (!String.valueOf(got).equals(String.valueOf(want))) {
            wrong++;
            System.out.println(where + ": " + call + " answered " + got + ", due is " + want);
        }
    }

    /** Puts a text behind the TAPE. */
    void feed(String text) {
        byte[] bytes = new byte[(text.length() + 19) / 20 * 20];
        java.util.Arrays.fill(bytes, (byte) ' ');
        for (int i = 0; i < text.length(); i++) {
            bytes[i] = (byte) text.charAt(i);
        }
        int before = 0;
        for (int i = 0; i < bytes.length; i += 20) {
            int after = solver.feed(word(bytes, i), word(bytes, i + 4), word(bytes, i + 8),
                    word(bytes, i + 12), word(bytes, i + 16));
            before = i == 0 ? after - 20 : before;
        }
        if (bytes.length > 0) {
            solver.end(before + text.length());
        }
    }

    private static int word(byte[] bytes, int at) {
        return bytes[at] << 24 | (bytes[at + 1] & 255) << 16 | (bytes[at + 2] & 255) << 8 | bytes[at + 3] & 255;
    }

    int solve(int variables, String system) {
        solver.variables(variables);
        feed(system);
        return solver.solve();
    }

    String text() {
        StringBuilder text = new StringBuilder();
        int length = solver.length();
        for (int i = 0; i < length; i++) {
            text.append((char) solver.letter(i));
        }
        return text.toString();
    }

    /** The TEXT that a call wrote, whose answer is its length; else what went wrong. */
    String written(int answer) {
        if (answer != solver.length()) {
            return "answer " + answer + ", length " + solver.length() + ", status " + solver.status();
        }
        return text();
    }

    String rest(String polynomial) {
        feed(polynomial);
        return written(solver.rest());
    }

    int sign(String polynomial, int j) {
        feed(polynomial);
        return solver.sign(j);
    }

    /** The call was refused with this STATUS, and nothing else has changed. */
    void refused(String call, java.util.function.IntSupplier run, int status) {
        String text = text();
        int place = solver.place();
        int digest = solver.digest();
        due(call, run.getAsInt(), -1);
        due(call + ", its status", solver.status(), status);
        due(call + ", its text", text(), text);
        due(call + ", its place", solver.place(), place);
        due(call + ", its digest", solver.digest(), digest);
        due(call + ", its status still", solver.status(), status);
    }

    void end() {
        System.out.println(checks + " checks, " + wrong + " wrong");
        if (wrong != 0 || checks == 0) {
            System.exit(1);
        }
    }
}
