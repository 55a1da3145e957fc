import java.util.Random;

/** The bounds that the document names for what is read: promises 5, 6, 11 and 22, and each FAULT. */
final class ReadBoundsTest {
    private static final Harness H = new Harness();

    public static void main(String[] args) {
        numbers();
        powers();
        degreesOfSystems();
        degreesOfRests();
        likePowers();
        fivePolynomials();
        signs();
        blanks();
        bytes();
        ends();
        firstFault();
        allShortTexts();
        longerTexts();
        placeOfTheLatest();
        faultKeepsTheOneBefore();
        infiniteIsTold();
        H.end();
    }

    private static Run any(int n) {
        return new Run("variables " + n, "tape 0", "solve");
    }

    /** The REST by no POLYNOMIAL at all is what was read. */
    private static void read(int n, String text, String due) {
        H.name("reading " + text);
        Run run = any(n);
        run.tape(text);
        H.due("rest", run.written("rest"), due);
        H.due("status", run.status(), 0);
        H.due("place", run.place(), -1);
    }

    private static void faultOfRest(int n, String text, int place) {
        for (String call : new String[] {"rest", "sign 0"}) {
            H.name(call + " of " + shorten(text));
            String point = n == 1 ? "x" : n == 2 ? "x;y" : "x;y;z";
            Run run = new Run("variables " + n, "tape " + point, "solve", "poly 0");
            String shown = new Run("variables " + n, "tape " + point, "solve", "poly 0").shown();
            run.tape(text);
            H.due("answer", run.play(call), -1);
            H.due("status", run.status(), 1);
            H.due("place", run.place(), place);
            H.due("what is shown", run.shown(), shown);
        }
    }

    private static void fault(int n, String text, int place) {
        H.name("solve of " + shorten(text) + ", n " + n);
        String[] before = {"variables " + n, "tape " + (n == 1 ? "x-1" : n == 2 ? "x-1;y" : "x-1;y;z"), "solve", "stair 0"};
        Run run = new Run(before);
        run.tape(text);
        H.due("solve", run.play("solve"), -1);
        H.due("status", run.status(), 1);
        H.due("place", run.place(), place);
        H.due("what is shown", run.shown(), new Run(before).shown());
    }

    private static void good(int n, String text) {
        H.name("solve of " + shorten(text) + ", n " + n);
        Run run = new Run("variables " + n);
        run.tape(text);
        int answer = run.play("solve");
        H.due("solve is not refused, or 5", answer >= 0 ? 0 : 5, run.status());
        H.due("place", run.place(), -1);
        H.due("there is a SYSTEM", run.call("basis") >= 0, true);
    }

    private static String shorten(String text) {
        return text.length() < 60 ? text : text.substring(0, 20) + ".." + text.length();
    }

    /** "a NUMBER (1 to 4 digits)", and "a fifth digit" is a FAULT. */
    private static void numbers() {
        read(2, "0", "0");
        read(2, "1", "1");
        read(2, "9", "9");
        read(2, "10", "10");
        read(2, "99", "99");
        read(2, "999", "999");
        read(2, "1000", "1000");
        read(2, "9999", "9999");
        read(2, "0000", "0");
        read(2, "0009", "9");
        read(2, "0099x", "99x");
        read(2, "-9999y", "-9999y");
        read(2, "9 9\n9 9", "9999");
        faultOfRest(2, "00000", 4);
        faultOfRest(2, "00001", 4);
        faultOfRest(2, "10000", 4);
        faultOfRest(2, "99999x", 4);
        faultOfRest(2, "999999", 4);
        faultOfRest(2, "9 9 9 9 9", 8);
        faultOfRest(2, "x+12345", 6);
        faultOfRest(2, "-12345", 5);
        good(1, "9999x-9999");
        fault(1, "x-10000", 6);
        fault(1, "10000x-1", 4);
        fault(2, "x;1234;12345", 11);
        // No digit at all is no NUMBER: then a FACTOR must come.
        read(2, "x", "x");
        faultOfRest(2, "+", 1);
        faultOfRest(2, "-;", 1);
        // The bytes beside the digits 0 and 9
        faultOfRest(2, "/", 0);
        faultOfRest(2, ":", 0);
        faultOfRest(2, "1/", 1);
        faultOfRest(2, "1:", 1);
    }

    /** "a VARIABLE and a digit 0 to 9, its power"; "a second one of a power" is a FAULT. */
    private static void powers() {
        String[] due = {"1", "x", "x2", "x3", "x4", "x5", "x6", "x7", "x8", "x9"};
        for (int power = 0; power <= 9; power++) {
            read(2, "x" + power, due[power]);
            read(2, "y" + power, due[power].replace("x", "y"));
            read(3, "z" + power, due[power].replace("x", "z"));
            read(1, "x " + power, due[power]);
            for (int second = 0; second <= 9; second++) {
                faultOfRest(2, "x" + power + second, 2);
            }
        }
        read(2, "5x0y0", "5");
        read(3, "x0y0z0", "1");
        read(3, "x0y1z0", "y");
        faultOfRest(2, "x/", 1);
        faultOfRest(2, "x:", 1);
        faultOfRest(2, "x2/", 2);
        faultOfRest(2, "x2:", 2);
        faultOfRest(2, "x 2 2", 4);
        fault(2, "x10", 2);
        fault(1, "x6-x11", 5);
        good(1, "x6-x1");
    }

    private static int mostOfSystems(int n) {
        return n == 1 ? 6 : n == 2 ? 3 : 2;
    }

    private static String term(int n, int x, int y, int z) {
        return "x" + x + (n > 1 ? "y" + y : "") + (n > 2 ? "z" + z : "");
    }

    /** "6 at most with one VARIABLE, 3 with two, 2 with three" */
    private static void degreesOfSystems() {
        for (int n = 1; n <= 3; n++) {
            for (int x = 0; x <= 9; x++) {
                for (int y = 0; y <= (n > 1 ? 5 : 0); y++) {
                    for (int z = 0; z <= (n > 2 ? 4 : 0); z++) {
                        systemOfDegree(n, term(n, x, y, z), x + y + z <= mostOfSystems(n));
                    }
                }
            }
        }
        systemOfDegree(1, "xxxxxx", true);
        systemOfDegree(1, "xxxxxxx", false);
        systemOfDegree(1, "x3x3x0", true);
        systemOfDegree(1, "x3x3x", false);
        systemOfDegree(2, "xyx", true);
        systemOfDegree(2, "xyxy", false);
        systemOfDegree(3, "zz", true);
        systemOfDegree(3, "zzz", false);
        systemOfDegree(3, "xyz", false);
        systemOfDegree(2, "x0".repeat(100), true);
        systemOfDegree(1, "x9".repeat(200), false);
    }

    private static void systemOfDegree(int n, String term, boolean taken) {
        String[] ahead = {"", "1+", "x;-", "0", "1+ 7"};
        int[] place = {0, 2, 3, 0, 3};
        for (int i = 0; i < ahead.length; i++) {
            if (taken) {
                good(n, ahead[i] + term);
                good(n, ahead[i] + term + " ;");
            } else {
                fault(n, ahead[i] + term, place[i]);
                // "told when all of it was met, ahead of a byte behind it with which it does not go on"
                fault(n, ahead[i] + term + "?", place[i]);
                fault(n, ahead[i] + term + " +x;;", place[i]);
            }
        }
    }

    /** For rest() and sign(): "TERMS of DEGREE 20 at most". */
    private static void degreesOfRests() {
        for (int x = 0; x <= 9; x++) {
            for (int y = 0; y <= 9; y++) {
                for (int z = 0; z <= 9; z++) {
                    if (x + y + z > 20) {
                        faultOfRest(3, term(3, x, y, z), 0);
                    } else if (x + y + z > 18) {
                        restTaken(3, term(3, x, y, z));
                    }
                }
            }
        }
        read(1, "x9x9x2", "x20");
        read(1, "x9x9x1", "x19");
        read(2, "y9y9y2", "y20");
        read(3, "z9z9z2", "z20");
        read(2, "x5y5x5y5", "x10y10");
        read(1, "x".repeat(20), "x20");
        faultOfRest(1, "x".repeat(21), 0);
        faultOfRest(1, "x9x9x3", 0);
        faultOfRest(1, "1-x9x9x3", 2);
        faultOfRest(1, "1- 0x9x9x3", 3);
        faultOfRest(1, "x9x9x3?", 0);
        faultOfRest(1, "x9x9x33", 0);
        faultOfRest(1, "x9x9x22", 6);
        faultOfRest(2, "x9x9y3;", 0);
        faultOfRest(1, "x9".repeat(400), 0);
        // A system's bound is not that of rest().
        read(1, "x7", "x7");
        read(2, "x2y2", "x2y2");
        read(3, "xyz", "xyz");
    }

    private static void restTaken(int n, String text) {
        H.name("rest and sign of " + text);
        Run run = new Run("variables 3", "tape x-1;y-1;z+1", "solve", "tape " + text);
        H.due("rest", run.written("rest").replace("-", ""), "1");
        run.tape(text);
        H.due("sign is not 0", run.play("sign 0") % 2, 0);
        H.due("status", run.status(), 0);
        H.due("place", run.place(), -1);
    }

    /** "TERMS with like powers are added up": to nothing, too, and beyond four digits. */
    private static void likePowers() {
        read(2, "x-x", "0");
        read(2, "9999x+1x", "10000x");
        read(2, "xy-yx+x0", "1");
        read(2, "1-2", "-1");
        read(2, "2x-x", "x");
        read(2, "x-2x", "-x");
        read(2, "9999" + "+9999".repeat(159), String.valueOf(160 * 9999));
        read(2, "-9999" + "-9999".repeat(159), String.valueOf(-160 * 9999));
        read(1, "x" + "+x".repeat(399), "400x");
        good(2, "x-x");
        H.name("terms that add up to nothing");
        H.due("its basis", new Run("tape x-x;y-y", "solve").call("basis"), 0);
    }

    /** "A SYSTEM has at most 5 POLYNOMIALS", "perhaps one ; at the end" */
    private static void fivePolynomials() {
        String text = "x";
        for (int count = 1; count <= 5; count++) {
            good(2, text);
            good(2, text + ";");
            good(2, text + " ;\n ");
            fault(2, text + ";;", 2 * count);
            fault(2, text + "; ;", 2 * count + 1);
            text = text + ";x";
        }
        fault(2, "x;x;x;x;x;x", 10);
        fault(2, "x;x;x;x;x;x;", 10);
        fault(2, "x;x;x;x;x;x;x", 10);
        fault(2, "x;x;x;x;x; \nx", 12);
        fault(2, "x;x;x;x;x;-x", 10);
        fault(2, "x;x;x;x;x;x9", 10);
        fault(2, "x;x;x;x;x;+ ?", 10);
        fault(2, "0;0;0;0;0;0", 10);
        good(3, "x;y;z;x-y;y-z;");
        // The FAULT of the fifth comes first.
        fault(2, "x;x;x;x;x+;x", 10);
        fault(2, "x;x;x;x;y9;x", 8);
        // rest() and sign() read one.
        faultOfRest(2, "x;", 1);
        faultOfRest(2, "x;y", 1);
        faultOfRest(2, ";", 0);
        faultOfRest(2, "x2 ;", 3);
    }

    /** "[+ or -] TERM { + or - TERM }" */
    private static void signs() {
        read(2, "+x", "x");
        read(2, "-x", "-x");
        read(2, "+0", "0");
        read(2, "-0", "0");
        read(2, "x-y+1", "x-y+1");
        faultOfRest(2, "++x", 1);
        faultOfRest(2, "--x", 1);
        faultOfRest(2, "x+-y", 2);
        faultOfRest(2, "x- +y", 3);
        faultOfRest(2, "x+", 2);
        faultOfRest(2, "x-", 2);
        fault(2, "x;+", 3);
        fault(2, "+;x", 1);
        // The bytes beside + and -
        for (String beside : new String[] {"*", ",", "."}) {
            faultOfRest(2, "x" + beside + "y", 1);
            faultOfRest(2, beside + "x", 0);
        }
    }

    /** "Bytes 32 and 10 are nothing, wherever they stand." */
    private static void blanks() {
        String[] texts = {"-12x2y1+3-4y0", "x2-2;y-x;", "1234x;9y2-1"};
        for (String text : texts) {
            for (String blank : new String[] {" ", "\n", " \n\n  "}) {
                String spaced = blank + text.replaceAll("(.)", "$1" + blank);
                H.name("blanks in " + text);
                Run run = new Run("tape " + spaced, "solve");
                Run other = new Run("tape " + text, "solve");
                H.due("place", run.place(), -1);
                H.due("what is shown", run.shown(), other.shown());
            }
        }
        fault(2, " ", 1);
        fault(2, "\n", 1);
        fault(2, " ".repeat(800), 800);
        fault(2, "\n".repeat(799), 799);
        fault(2, " ".repeat(799) + ";", 799);
        good(2, " ".repeat(799) + "x");
        good(2, "x" + "\n".repeat(799));
        good(2, "1" + " ".repeat(260) + "2" + "\n".repeat(260) + "3" + " ".repeat(276) + "4");
    }

    /** Each of the 256 bytes, at each point of a text. */
    private static void bytes() {
        String[] ahead = {"", "+", "1", "12", "1234", "x", "x2", "1x", "x;", "x;-", "x4", "x;x;x;x;x;", " "};
        for (int letter = 0; letter < 256; letter++) {
            for (String before : ahead) {
                for (int n = 1; n <= 3; n++) {
                    compare(n, before + (char) letter, letter % 16 == 0);
                    compare(n, before + (char) letter + "1", false);
                }
            }
        }
    }

    /** "the text's size for its end" */
    private static void ends() {
        fault(2, "", 0);
        fault(2, "+", 1);
        fault(2, "x-", 2);
        fault(2, "x-\n", 3);
        fault(2, "x;x+", 4);
        fault(2, " ".repeat(798) + "-", 799);
        fault(2, " ".repeat(799) + "-", 800);
        fault(2, "-" + " ".repeat(799), 800);
        faultOfRest(2, "", 0);
        faultOfRest(2, " ", 1);
        faultOfRest(2, "x-", 2);
        faultOfRest(2, "x+" + " ".repeat(798), 800);
        good(2, "x");
        good(2, "x;");
    }

    /** "A FAULT of a text, the first from the left" */
    private static void firstFault() {
        fault(2, "??", 0);
        fault(2, "x?;?", 1);
        fault(2, "x;y4;?", 2);
        fault(2, "z?", 0);
        fault(2, "x+z;x9", 2);
        fault(2, "x9+z", 0);
        fault(2, "x9;z", 0);
        fault(2, "12345;x9", 4);
        fault(2, "x9+12345", 0);
        fault(2, "x22;x9", 2);
        fault(2, "x44", 0);
        fault(2, "1x2y2 ?", 0);
        // Not all of the TERM has been met where a VARIABLE stands that is not one of the first n.
        fault(2, "x9z", 2);
        fault(1, "x9y", 2);
        fault(2, "x;x;x;x;x;z", 10);
    }

    private static void compare(int n, String text, boolean alsoSign) {
        Run run = new Run("variables " + n, "tape 0", "solve");
        run.tape(text);
        run.play("solve");
        H.name("solve of " + shorten(text) + ", n " + n);
        int due = new Grammar(n, true).fault(text);
        H.due("place", run.place(), due);
        H.due("status 1", run.status() == 1, due >= 0);
        Run other = any(n);
        other.tape(text);
        other.play("rest");
        H.name("rest of " + shorten(text) + ", n " + n);
        due = new Grammar(n, false).fault(text);
        H.due("place", other.place(), due);
        H.due("status", other.status(), due >= 0 ? 1 : 0);
        if (alsoSign) {
            Run point = new Run("variables " + n, "tape " + (n == 1 ? "x" : n == 2 ? "x;y" : "x;y;z"), "solve");
            point.tape(text);
            point.play("sign 0");
            H.name("sign of " + shorten(text) + ", n " + n);
            H.due("place", point.place(), due);
            H.due("status", point.status(), due >= 0 ? 1 : 0);
        }
    }

    private static void allShortTexts() {
        String letters = "xyz09+-; ?";
        for (int length = 0; length <= 4; length++) {
            int count = (int) Math.pow(letters.length(), length);
            for (int i = 0; i < count; i++) {
                StringBuilder text = new StringBuilder();
                for (int left = i, at = 0; at < length; at++, left /= letters.length()) {
                    text.append(letters.charAt(left % letters.length()));
                }
                compare(1 + i % 3, text.toString(), i % 50 == 0);
            }
        }
    }

    private static void longerTexts() {
        Random random = new Random(11);
        String[] pieces = {"x", "y", "z", "x", "y", "x2", "x9", "y9", "z3", "x0", "1", "12", "123", "9", "+", "-", "+", "-",
            ";", ";", " ", "\n", "?"};
        for (int i = 0; i < 20000; i++) {
            StringBuilder text = new StringBuilder();
            int size = 3 + random.nextInt(20);
            int used = pieces.length - random.nextInt(4);
            for (int p = 0; p < size; p++) {
                text.append(pieces[random.nextInt(used)]);
            }
            compare(1 + random.nextInt(3), text.toString(), i % 10 == 0);
        }
    }

    /** "The PLACE of the FAULT that the latest call found that reads the TAPE; -1 if it found none" */
    private static void placeOfTheLatest() {
        H.name("place");
        H.due("at first", new Run().place(), -1);
        Run run = new Run("tape x;?", "solve");
        H.due("after a FAULT", run.place(), 2);
        H.due("STATUS stays", run.status(), 1);
        H.due("asked again", run.place(), 2);
        for (String call : new String[] {"variables 2", "variables 9", "feed 0 0 0 0 0", "end 0", "end 1", "basis", "poly 0",
            "stairs", "stair 0", "zeros", "form", "eliminant 0", "fraction 0", "real", "multiplicity 0", "rank 0 1",
            "floor 0 1 0", "exact 0 1 0", "apart", "length", "letter 0", "status", "digest", "rest", "sign 0"}) {
            run.play(call);
            H.due("after " + call + ", which reads nothing here", run.place(), 2);
        }
        run = new Run("tape x;?", "solve", "tape x-1;y", "solve");
        H.due("after a good solve", run.place(), -1);
        run.play("tape 12345");
        run.play("rest");
        H.due("after rest with a FAULT", run.place(), 4);
        run.play("tape x");
        run.play("sign 0");
        H.due("after a good sign", run.place(), -1);
        run.play("tape +");
        run.play("sign 0");
        H.due("after sign with a FAULT", run.place(), 1);
        run.play("tape x");
        run.play("rest");
        H.due("after a good rest", run.place(), -1);
        run.play("tape x+y+");
        run.play("solve");
        H.due("after solve with a FAULT", run.place(), 4);
        run.play("tape xy");
        run.play("solve");
        H.due("after an INFINITE one, which is no FAULT", run.place(), -1);
        H.due("its status stays", run.status(), 5);
    }

    /** "With a FAULT the one of before stays." */
    private static void faultKeepsTheOneBefore() {
        String[][] states = {{}, {"tape x2-2;y-x", "solve", "poly 1"}, {"tape 1", "solve"}, {"tape xy", "solve"},
            {"tape 0", "solve"}, {"variables 3", "tape x;y;z2-z", "solve"}, {"tape x;y", "solve", "variables 1"}};
        for (String[] state : states) {
            for (String text : new String[] {"", "?", "x;", "x-1;y;", "w", "x-1;x-2;x9", "x;x;x;x;x;x", "x+", "12345"}) {
                Run run = new Run(state);
                run.tape(text);
                run.play("solve");
                if (run.status() == 1) {
                    H.name("a FAULT in " + text + " after " + String.join(", ", state));
                    H.due("place", run.place() >= 0, true);
                    H.due("what is shown", run.shown(), new Run(state).shown());
                }
            }
        }
    }

    /** "(5: then that is what is told of it, until another one is solved)" */
    private static void infiniteIsTold() {
        H.name("an INFINITE one after another one");
        Run run = new Run("tape x-1;y", "solve", "tape xy-x", "solve");
        H.due("status", run.status(), 5);
        H.due("basis", run.call("basis"), 1);
        H.due("poly", run.written("poly 0"), "xy-x");
        for (String call : new String[] {"stairs", "stair 0", "zeros", "form", "eliminant 0", "fraction 0", "real",
            "multiplicity 0", "rank 0 1", "floor 0 1 0", "exact 0 1 0", "apart", "sign 0"}) {
            H.due(call, run.play(call), -1);
            H.due(call + ", its status", run.status(), 5);
        }
        run.play("tape x2y");
        H.due("rest", run.written("rest"), "x2");
        run.play("tape ?");
        run.play("solve");
        H.due("after a FAULT it is still told", run.call("zeros"), -1);
        H.due("status", run.status(), 5);
        H.due("basis", run.call("basis"), 1);
        run.play("tape x;y;");
        H.due("until another one is solved", run.play("solve"), 1);
        H.due("zeros", run.call("zeros"), 1);
        H.due("status", run.status(), 0);
    }
}
