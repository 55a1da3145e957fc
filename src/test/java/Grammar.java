/**
 * Where a text has its FAULT, told byte by byte from the document's words and by other means than
 * the program's: what may come next is kept as a set of letters.
 */
final class Grammar {
    private static final String DIGITS = "0123456789";
    private static final String LETTERS = "xyz";
    private static final String SIGNS = "+-";

    private final int variables;
    private final int most;
    private final boolean system;

    private int termStart;
    private int degree;
    private int digits;
    private int polynomials;
    /** What may come next, beside the end. */
    private String next;
    private boolean mayEnd;

    Grammar(int variables, boolean system) {
        this.variables = variables;
        this.system = system;
        this.most = !system ? 20 : variables == 1 ? 6 : variables == 2 ? 3 : 2;
    }

    /** The PLACE of the FAULT, -1 for none. */
    int fault(String text) {
        termStart = -1;
        degree = 0;
        digits = 0;
        polynomials = 0;
        next = SIGNS + DIGITS + LETTERS;
        mayEnd = false;
        for (int i = 0; i < text.length(); i++) {
            char c = text.charAt(i);
            int found = c == ' ' || c == '\n' ? -1 : take(c, i);
            if (found >= 0) {
                return found;
            }
        }
        boolean tooGreat = termStart >= 0 && degree > most;
        return tooGreat ? termStart : mayEnd ? -1 : text.length();
    }

    private int take(char c, int place) {
        boolean goesOn = next.indexOf(c) >= 0;
        boolean inTerm = termStart >= 0 && goesOn && (LETTERS + DIGITS).indexOf(c) >= 0;
        if (termStart >= 0 && !inTerm && degree > most) {
            return termStart;
        }
        if (polynomials == 5 && termStart < 0 && (SIGNS + DIGITS + LETTERS).contains(next)) {
            return place;
        }
        if (!goesOn || LETTERS.indexOf(c) >= variables) {
            return place;
        }
        if (DIGITS.indexOf(c) >= 0) {
            digit(c, place);
        } else if (LETTERS.indexOf(c) >= 0) {
            begin(place);
            degree++;
            digits = -1;
            next = DIGITS + LETTERS + SIGNS + ";";
        } else {
            termStart = -1;
            polynomials += c == ';' ? 1 : 0;
            next = (c == ';' ? SIGNS : "") + DIGITS + LETTERS;
            mayEnd = c == ';';
            return -1;
        }
        mayEnd = true;
        next = system ? next : next.replace(";", "");
        return -1;
    }

    private void begin(int place) {
        if (termStart < 0) {
            termStart = place;
            degree = 0;
            digits = 0;
        }
    }

    /** A digit of a NUMBER; or the power of the VARIABLE ahead, which was counted as 1. */
    private void digit(char c, int place) {
        begin(place);
        if (digits < 0) {
            degree += c - '0' - 1;
            next = LETTERS + SIGNS + ";";
        } else {
            digits++;
            next = (digits < 4 ? DIGITS : "") + LETTERS + SIGNS + ";";
        }
    }
}
