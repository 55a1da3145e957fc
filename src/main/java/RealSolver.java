import java.util.Arrays;

/**
 * Systems of polynomials with whole coefficients in one to three variables, solved exactly.
 *
 * <p>All numbers of any size stand in one row (see Numbers): what a call needs for a while is
 * written behind what is kept, and the row's end is set back when the call is over.
 */
public final class RealSolver {

    private static final int TAPE_ROOM = 800;
    private static final int MOST_STAIRS = 9;
    private static final int FINEST = 128;

    private static final int DONE = 0;
    private static final int FAULTY = 1;
    private static final int NOT_AS_TOLD = 2;
    private static final int NO_ROOM = 3;
    private static final int UNSOLVED = 4;
    private static final int INFINITE = 5;
    private static final int ABSENT = 6;
    private static final int TOO_CLOSE = 7;

    private final byte[] tape = new byte[TAPE_ROOM];
    private final Numbers numbers = new Numbers();
    private final Pen pen = new Pen(numbers);
    private final Reader reader = new Reader();
    private final Ideal ideal = new Ideal(numbers);
    private final Quotient quotient = new Quotient(numbers, ideal);
    private final Points points = new Points(numbers, quotient);
    private int onTape;
    private int variableCount = 2;
    private int outcome = DONE;
    private int faultPlace = -1;
    private boolean solved;

    public RealSolver() {
    }

    public int variables(int n) {
        if (n < 1 || n > 3) {
            return refuse(NOT_AS_TOLD);
        }
        variableCount = n;
        solved = false;
        return answer(n);
    }

    public int feed(int a, int b, int c, int d, int e) {
        if (onTape + 20 > TAPE_ROOM) {
            return refuse(NO_ROOM);
        }
        append(a);
        append(b);
        append(c);
        append(d);
        append(e);
        return answer(onTape);
    }

    public int end(int n) {
        if (n < 0 || n > onTape) {
            return refuse(NOT_AS_TOLD);
        }
        onTape = n;
        return answer(n);
    }

    public int solve() {
        faultPlace = reader.readSystem(tape, takeTape(), variableCount);
        if (faultPlace >= 0) {
            return refuse(FAULTY);
        }
        solved = true;
        ideal.build(reader);
        ideal.tidy();
        quotient.findStairs(variableCount);
        if (quotient.infinite) {
            return refuse(INFINITE);
        }
        quotient.findColumns();
        points.begin();
        for (int v = 1; v <= variableCount; v++) {
            points.eliminateVariable(v);
        }
        points.boundZeros();
        for (int k = 0; k <= Points.LAST_FORM && !points.tryForm(k); k++) {
            continue;
        }
        points.fixForm();
        points.findFractions();
        for (int v = 0; v <= variableCount; v++) {
            points.roots[v].isolate(points.eliminants[v]);
            points.roots[v].separate();
        }
        points.findMultiplicities();
        return answer(points.zeroCount());
    }

    public int place() {
        return faultPlace;
    }

    public int basis() {
        if (!solved) {
            return refuse(UNSOLVED);
        }
        return answer(ideal.count);
    }

    public int poly(int i) {
        if (!solved) {
            return refuse(UNSOLVED);
        }
        if (i < 0 || i >= ideal.count) {
            return refuse(ABSENT);
        }
        pen.clear();
        pen.writeTerms(ideal.at[i]);
        return answer(pen.size);
    }

    public int stairs() {
        int lack = lackOfZeros();
        return lack != DONE ? refuse(lack) : answer(quotient.count);
    }

    public int stair(int i) {
        int lack = lackOfZeros();
        if (lack != DONE) {
            return refuse(lack);
        }
        if (i < 0 || i >= quotient.count) {
            return refuse(ABSENT);
        }
        pen.clear();
        pen.writePowers(quotient.stairKey[i], true);
        return answer(pen.size);
    }

    public int rest() {
        if (!solved) {
            return refuse(UNSOLVED);
        }
        if (readPolynomial()) {
            return refuse(FAULTY);
        }
        int mark = numbers.top;
        int remainder = ideal.normalForm(reader);
        pen.clear();
        pen.writeTerms(remainder);
        pen.writeDivisor(ideal.divisorOf(remainder));
        numbers.top = mark;
        return answer(pen.size);
    }

    public int zeros() {
        int lack = lackOfZeros();
        return lack != DONE ? refuse(lack) : answer(points.zeroCount());
    }

    public int form() {
        int lack = lackOfZeros();
        return lack != DONE ? refuse(lack) : answer(points.formStep);
    }

    public int eliminant(int v) {
        int lack = lackOfVariable(v, 0);
        if (lack != DONE) {
            return refuse(lack);
        }
        pen.clear();
        pen.writeInT(points.eliminants[v]);
        return answer(pen.size);
    }

    public int fraction(int v) {
        int lack = lackOfVariable(v, 0);
        if (lack != DONE) {
            return refuse(lack);
        }
        pen.clear();
        pen.writeInT(points.fractions[v]);
        pen.writeDivisor(points.fractions[v].divisor);
        return answer(pen.size);
    }

    public int real() {
        int lack = lackOfZeros();
        return lack != DONE ? refuse(lack) : answer(points.realCount());
    }

    public int multiplicity(int j) {
        int lack = lackOfReal(j);
        return lack != DONE ? refuse(lack) : answer(points.multiple[j]);
    }

    public int rank(int j, int v) {
        int lack = lackOfCoordinate(j, v);
        return lack != DONE ? refuse(lack) : answer(points.rankOf(j, v));
    }

    public int floor(int j, int v, int k) {
        if (k < 0 || k > FINEST) {
            return refuse(NOT_AS_TOLD);
        }
        int lack = lackOfCoordinate(j, v);
        if (lack != DONE) {
            return refuse(lack);
        }
        int mark = numbers.top;
        int r = points.rankOf(j, v);
        pen.clear();
        pen.writeWhole(points.roots[v].floorAt(r, k));
        numbers.top = mark;
        return answer(pen.size);
    }

    public int exact(int j, int v, int k) {
        if (k < 0 || k > FINEST) {
            return refuse(NOT_AS_TOLD);
        }
        int lack = lackOfCoordinate(j, v);
        if (lack != DONE) {
            return refuse(lack);
        }
        int r = points.rankOf(j, v);
        return answer(points.roots[v].meetsGrid(r, k) ? 1 : 0);
    }

    public int apart() {
        int lack = lackOfZeros();
        if (lack != DONE) {
            return refuse(lack);
        }
        int most = 0;
        for (int i = 0; i < points.realCount(); i++) {
            for (int v = 1; v <= variableCount; v++) {
                points.roots[v].refine(points.rankOf(i, v), FINEST);
            }
            for (int j = 0; j < i; j++) {
                most = Math.max(most, points.levelThatParts(i, j));
            }
        }
        return most > FINEST ? refuse(TOO_CLOSE) : answer(most);
    }

    public int sign(int j) {
        int lack = lackOfReal(j);
        if (lack != DONE) {
            return refuse(lack);
        }
        if (readPolynomial()) {
            return refuse(FAULTY);
        }
        int mark = numbers.top;
        int remainder = ideal.normalForm(reader);
        int s = points.signAtZero(remainder, j);
        numbers.top = mark;
        return answer(s + 1);
    }

    public int length() {
        return pen.size;
    }

    public int letter(int i) {
        return i < 0 || i >= pen.size ? -1 : pen.text[i] & 255;
    }

    public int status() {
        return outcome;
    }

    public int digest() {
        int d = 23;
        for (int i = 0; i < pen.size; i++) {
            d = d * 31 + (pen.text[i] & 255);
        }
        d = d * 31 + onTape;
        d = d * 31 + variableCount;
        if (lackOfZeros() != DONE) {
            return d * 31 - 1;
        }
        d = d * 31 + quotient.count;
        d = d * 31 + points.zeroCount();
        d = d * 31 + points.formStep;
        return d * 31 + points.realCount();
    }

    private int answer(int value) {
        outcome = DONE;
        return value;
    }

    private int refuse(int why) {
        outcome = why;
        return -1;
    }

    private void append(int four) {
        for (int shift = 24; shift >= 0; shift -= 8) {
            if (onTape < TAPE_ROOM) {
                tape[onTape] = (byte) (four >> shift);
                onTape++;
            }
        }
    }

    private int takeTape() {
        int size = onTape;
        onTape = 0;
        return size;
    }

    private boolean readPolynomial() {
        faultPlace = reader.readOne(tape, takeTape(), variableCount);
        return faultPlace >= 0;
    }

    private int lackOfZeros() {
        if (!solved) {
            return UNSOLVED;
        }
        return quotient.infinite ? INFINITE : DONE;
    }

    private int lackOfVariable(int v, int least) {
        int lack = lackOfZeros();
        if (lack != DONE) {
            return lack;
        }
        return v < least || v > variableCount ? ABSENT : DONE;
    }

    private int lackOfReal(int j) {
        int lack = lackOfZeros();
        if (lack != DONE) {
            return lack;
        }
        return j < 0 || j >= points.realCount() ? ABSENT : DONE;
    }

    private int lackOfCoordinate(int j, int v) {
        int lack = lackOfVariable(v, 1);
        return lack != DONE ? lack : lackOfReal(j);
    }

    /**
     * Whole numbers of any size in one row of words. A number stands at a word that tells its sign
     * and how many words of 31 bits follow, the lowest first. Each method writes its answer at the
     * row's end and tells where. At word 0 stands the number 0, at word 1 the polynomial of no
     * terms: they are also the answers when the row may not grow any more.
     */
    private static final class Numbers {
        static final int ZERO = 0;
        static final int NO_TERMS = 1;
        static final int FIRST_FREE = 3;
        static final int WORD = 31;
        static final int MASK = 0x7fffffff;
        static final int MOST_WORDS = 1 << 21;
        static final int WINDOW = 62;
        static final int MOST_ROUNDS = 1000000;

        int[] w = new int[1 << 12];
        int top = FIRST_FREE;
        // Two rows of factors, a step of Lehmer's: x, y become (ax x + ay y), (bx x + by y).
        private long ax;
        private long ay;
        private long bx;
        private long by;

        Numbers() {
            w[NO_TERMS + 1] = 2;
        }

        boolean fits(int words) {
            if (words < 0 || words > MOST_WORDS - top) {
                return false;
            }
            if (top + words > w.length) {
                w = Arrays.copyOf(w, Math.max(top + words, 2 * w.length));
            }
            return true;
        }

        int sizeOf(int a) {
            return Math.abs(w[a]);
        }

        int next(int a) {
            return a + 1 + Math.abs(w[a]);
        }

        boolean isOne(int a) {
            return w[a] == 1 && w[a + 1] == 1;
        }

        int signOf(int a) {
            return Integer.compare(w[a], 0);
        }

        void negate(int a) {
            if (a >= FIRST_FREE) {
                w[a] = -w[a];
            }
        }

        int of(long value) {
            if (!fits(4)) {
                return ZERO;
            }
            int r = top;
            int n = 0;
            long m = Math.abs(value);
            for (int i = 0; i < 3 && m != 0; i++) {
                n++;
                w[r + n] = (int) (m & MASK);
                m >>>= WORD;
            }
            w[r] = value < 0 ? -n : n;
            top = r + 1 + n;
            return r;
        }

        int copy(int a) {
            int n = 1 + sizeOf(a);
            if (!fits(n)) {
                return ZERO;
            }
            int r = top;
            System.arraycopy(w, a, w, r, n);
            top = r + n;
            return r;
        }

        /** The number moves to the mark, and all that was behind the mark is gone. */
        int keep(int mark, int a) {
            int n = 1 + sizeOf(a);
            top = mark;
            if (!fits(n)) {
                return ZERO;
            }
            System.arraycopy(w, a, w, mark, n);
            top = mark + n;
            return mark;
        }

        /** The numbers of a list move to the mark, and all else behind the mark is gone. */
        void settle(int mark, int[] list, int count) {
            int words = 0;
            for (int i = 0; i < count; i++) {
                words += 1 + sizeOf(list[i]);
            }
            boolean room = fits(words);
            int from = top;
            for (int i = 0; i < count; i++) {
                list[i] = room ? copy(list[i]) - from + mark : ZERO;
            }
            int moved = top - from;
            System.arraycopy(w, from, w, mark, moved);
            top = mark + moved;
        }

        int add(int a, int b) {
            return plus(a, w[a], b, w[b]);
        }

        int sub(int a, int b) {
            return plus(a, w[a], b, -w[b]);
        }

        /** The sum; each number comes with the word that tells its size and the sign it is to have. */
        int plus(int a, int signedA, int b, int signedB) {
            boolean inOrder = compareSizes(a, b) >= 0;
            int x = inOrder ? a : b;
            int y = inOrder ? b : a;
            int nx = Math.abs(w[x]);
            int ny = Math.abs(w[y]);
            if (!fits(nx + 2)) {
                return ZERO;
            }
            int[] v = w;
            int r = top;
            long way = (signedA < 0) == (signedB < 0) ? 1 : -1;
            long carry = 0;
            int n = 0;
            for (int i = 1; i <= nx; i++) {
                long t = carry + v[x + i] + (i <= ny ? way * v[y + i] : 0);
                int word = (int) (t & MASK);
                v[r + i] = word;
                carry = t >> WORD;
                if (word != 0) {
                    n = i;
                }
            }
            if (carry != 0) {
                n = nx + 1;
                v[r + n] = (int) carry;
            }
            v[r] = (inOrder ? signedA : signedB) < 0 ? -n : n;
            top = r + 1 + n;
            return r;
        }

        /** Compares without the signs. */
        int compareSizes(int a, int b) {
            int na = Math.abs(w[a]);
            int nb = Math.abs(w[b]);
            if (na != nb) {
                return na < nb ? -1 : 1;
            }
            for (int i = na; i > 0; i--) {
                if (w[a + i] != w[b + i]) {
                    return w[a + i] < w[b + i] ? -1 : 1;
                }
            }
            return 0;
        }

        int compare(int a, int b) {
            int sa = signOf(a);
            int sb = signOf(b);
            if (sa != sb) {
                return sa < sb ? -1 : 1;
            }
            return sa < 0 ? compareSizes(b, a) : compareSizes(a, b);
        }

        int mul(int a, int b) {
            boolean longFirst = sizeOf(a) >= sizeOf(b);
            int x = longFirst ? a : b;
            int y = longFirst ? b : a;
            int nx = sizeOf(x);
            int ny = sizeOf(y);
            if (!fits(nx + ny + 1)) {
                return ZERO;
            }
            int[] v = w;
            int r = top;
            int n = ny == 0 ? 0 : nx + ny;
            Arrays.fill(v, r, r + 1 + n, 0);
            for (int j = 1; j <= ny; j++) {
                long m = v[y + j];
                long carry = 0;
                int t = r + j - 1;
                for (int i = 1; i <= nx; i++) {
                    long p = m * v[x + i] + v[t + i] + carry;
                    v[t + i] = (int) (p & MASK);
                    carry = p >>> WORD;
                }
                v[t + nx + 1] = (int) carry;
            }
            if (n > 0 && v[r + n] == 0) {
                n--;
            }
            v[r] = (v[a] < 0) != (v[b] < 0) ? -n : n;
            top = r + 1 + n;
            return r;
        }

        /**
         * The quotient, cut off towards 0, by Knuth's algorithm D; 0 if the divisor is 0. The
         * remainder stands right behind it, until something else is written there.
         */
        int quo(int a, int b) {
            int na = Math.abs(w[a]);
            int nb = Math.abs(w[b]);
            if (!fits(2 * na + nb + 8)) {
                return ZERO;
            }
            int q = top;
            int[] v = w;
            if (nb == 0 || compareSizes(a, b) < 0) {
                v[q] = 0;
                System.arraycopy(v, a, v, q + 1, na + 1);
                top = q + 1;
                return q;
            }
            int n = na - nb + 1;
            int u = q + 1 + n;
            int d = u + na + 1;
            int shift = Integer.numberOfLeadingZeros(v[b + nb]) - 1;
            v[u] = 0;
            v[d] = (int) shiftWords(a, na, u, shift);
            shiftWords(b, nb, d, shift);
            long high = Math.max(1, v[d + nb]);
            long second = nb > 1 ? v[d + nb - 1] : 0;
            for (int j = na - nb; j >= 0; j--) {
                int t = u + j + nb + 1;
                long two = ((long) v[t] << WORD) | v[t - 1];
                long digit = two / high;
                long left = two - digit * high;
                for (int k = 0; k < 2 && left <= MASK
                        && (digit > MASK || digit * second > ((left << WORD) | v[t - 2])); k++) {
                    digit--;
                    left += high;
                }
                v[q + 1 + j] = (int) takeMultiple(u + j, d, nb, digit);
            }
            if (v[q + n] == 0) {
                n--;
            }
            v[q] = (v[a] < 0) != (v[b] < 0) ? -n : n;
            int r = q + 1 + n;
            int size = shiftBack(u, nb, r, shift);
            v[r] = v[a] < 0 ? -size : size;
            top = r;
            return q;
        }

        /** Words behind u come, shifted down, behind r, which is not above u; answers how many. */
        private int shiftBack(int u, int n, int r, int shift) {
            int[] v = w;
            int size = 0;
            for (int i = 1; i <= n; i++) {
                long high = i < n ? v[u + i + 1] : 0;
                v[r + i] = (int) (((high << WORD | v[u + i]) >> shift) & MASK);
                if (v[r + i] != 0) {
                    size = i;
                }
            }
            return size;
        }

        private long shiftWords(int from, int n, int to, int shift) {
            int[] v = w;
            long carry = 0;
            for (int i = 1; i <= n; i++) {
                long t = ((long) v[from + i] << shift) | carry;
                v[to + i] = (int) (t & MASK);
                carry = t >>> WORD;
            }
            return carry;
        }

        /** Takes digit times the divisor away from the words behind u; answers the true digit. */
        private long takeMultiple(int u, int d, int n, long digit) {
            int[] v = w;
            long carry = 0;
            for (int i = 1; i <= n; i++) {
                long t = v[u + i] - digit * v[d + i] + carry;
                v[u + i] = (int) (t & MASK);
                carry = t >> WORD;
            }
            long last = v[u + n + 1] + carry;
            v[u + n + 1] = 0;
            if (last >= 0) {
                return digit;
            }
            carry = 0;
            for (int i = 1; i <= n; i++) {
                long t = carry + v[u + i] + v[d + i];
                v[u + i] = (int) (t & MASK);
                carry = t >>> WORD;
            }
            return digit - 1;
        }

        /** The greatest common divisor, not below 0, by Lehmer's way. */
        int gcd(int a, int b) {
            int mark = top;
            if (!fits(8 * Math.max(sizeOf(a), sizeOf(b)) + 40)) {
                return ZERO;
            }
            int x = copy(a);
            int y = copy(b);
            w[x] = Math.abs(w[x]);
            w[y] = Math.abs(w[y]);
            for (int round = 0; round < MOST_ROUNDS && w[y] != 0; round++) {
                if (w[x] <= 2 && w[y] <= 2) {
                    long g = gcdOfLongs(asLong(x), asLong(y));
                    top = mark;
                    return of(g);
                }
                int from = top;
                if (findFactors(x, y)) {
                    combine(ax, x, ay, y);
                    combine(bx, x, by, y);
                } else {
                    copy(y);
                    int q = quo(x, y);
                    int n = 1 + w[top];
                    System.arraycopy(w, top, w, q, n);
                    top = q + n;
                }
                int moved = top - from;
                System.arraycopy(w, from, w, mark, moved);
                x = mark;
                y = next(x);
                top = mark + moved;
            }
            return keep(mark, x);
        }

        private long gcdOfLongs(long x, long y) {
            for (int i = 0; i < 200 && y != 0; i++) {
                long t = x % y;
                x = y;
                y = t;
            }
            return x;
        }

        private long asLong(int a) {
            int n = w[a];
            long high = n > 1 ? w[a + 2] : 0;
            return (high << WORD) | (n > 0 ? w[a + 1] : 0);
        }

        /** Follows Euclid on the leading bits as long as all of the numbers would go the same way. */
        private boolean findFactors(int x, int y) {
            int shift = bitsOf(x) - WINDOW;
            if (shift < 0 || compareSizes(x, y) < 0) {
                return false;
            }
            long hx = window(x, shift);
            long hy = window(y, shift);
            ax = 1;
            ay = 0;
            bx = 0;
            by = 1;
            for (int i = 0; i < 100 && hy + bx > 0 && hy + by > 0; i++) {
                long q = (hx + ax) / (hy + bx);
                if (q != (hx + ay) / (hy + by) || q > MASK) {
                    break;
                }
                long cx = ax - q * bx;
                long cy = ay - q * by;
                if (Math.abs(cx) > MASK || Math.abs(cy) > MASK) {
                    break;
                }
                long rest = hx - q * hy;
                hx = hy;
                hy = rest;
                ax = bx;
                ay = by;
                bx = cx;
                by = cy;
            }
            return ay != 0;
        }

        private long window(int a, int shift) {
            int from = shift / WORD;
            int off = shift % WORD;
            int n = w[a];
            long low = from < n ? w[a + 1 + from] : 0;
            long mid = from + 1 < n ? w[a + 2 + from] : 0;
            long high = from + 2 < n ? w[a + 3 + from] : 0;
            return (low >> off) | (mid << (WORD - off)) | (off == 0 ? 0 : high << (2 * WORD - off));
        }

        private void combine(long fx, int x, long fy, int y) {
            int nx = w[x];
            int ny = w[y];
            int most = Math.max(nx, ny);
            int[] v = w;
            int r = top;
            long carry = 0;
            int n = 0;
            for (int i = 1; i <= most; i++) {
                long tx = i <= nx ? fx * v[x + i] : 0;
                long ty = i <= ny ? fy * v[y + i] : 0;
                long t = tx + ty + carry;
                v[r + i] = (int) (t & MASK);
                carry = t >> WORD;
                if (v[r + i] != 0) {
                    n = i;
                }
            }
            v[r] = n;
            top = r + 1 + n;
        }

        int bitsOf(int a) {
            int n = Math.abs(w[a]);
            return n == 0 ? 0 : n * WORD + 1 - Integer.numberOfLeadingZeros(w[a + n]);
        }

        /** How many of the lowest bits are 0; the number itself is not 0. */
        int evenBits(int a) {
            int n = Math.abs(w[a]);
            for (int i = 1; i <= n; i++) {
                if (w[a + i] != 0) {
                    return (i - 1) * WORD + Integer.numberOfTrailingZeros(w[a + i]);
                }
            }
            return 0;
        }

        /** 2^by times the number; for by below 0 the floor of that. */
        int shift(int a, int by) {
            int n = Math.abs(w[a]);
            int words = Math.abs(by) / WORD;
            int bits = Math.abs(by) % WORD;
            if (!fits(n + 3 + (by > 0 ? words : 0))) {
                return ZERO;
            }
            int r = top;
            int size = 0;
            if (by >= 0 && n > 0) {
                Arrays.fill(w, r + 1, r + 1 + words, 0);
                size = n + words;
                w[r + size + 1] = (int) shiftWords(a, n, r + words, bits);
                size += w[r + size + 1] != 0 ? 1 : 0;
            } else if (by < 0) {
                size = words < n ? shiftBack(a + words, n - words, r, bits) : 0;
                if (w[a] < 0 && evenBits(a) < -by) {
                    size = addOne(r, size);
                }
            }
            w[r] = w[a] < 0 ? -size : size;
            top = r + 1 + size;
            return r;
        }

        private int addOne(int r, int size) {
            for (int i = 1; i <= size; i++) {
                if (w[r + i] != MASK) {
                    w[r + i]++;
                    return size;
                }
                w[r + i] = 0;
            }
            w[r + size + 1] = 1;
            return size + 1;
        }

        /** The number modulo a prime below 2^31, not below 0. */
        long modulo(int a, long p) {
            long r = 0;
            if (p <= 0) {
                return 0;
            }
            for (int i = sizeOf(a); i > 0; i--) {
                r = ((r << WORD) | w[a + i]) % p;
            }
            return w[a] < 0 && r != 0 ? p - r : r;
        }
    }

    /**
     * Power products as ints: DEGREE * 2^20 - z * 2^10 - y. So the greater int is the greater in
     * ORDER, and a product's int is the sum of the factors' ints.
     */
    private static final class Powers {
        static final int DEGREE = 20;
        static final int Z = 10;
        static final int LOW = 1023;

        private Powers() {
        }

        static int key(int x, int y, int z) {
            return ((x + y + z) << DEGREE) - (z << Z) - y;
        }

        static int degree(int key) {
            return (key + (1 << DEGREE) - 1) >> DEGREE;
        }

        static int z(int key) {
            return -key >> Z & LOW;
        }

        static int y(int key) {
            return -key & LOW;
        }

        static int x(int key) {
            int degree = (key + (1 << DEGREE) - 1) >> DEGREE;
            return degree - (-key & LOW) - (-key >> Z & LOW);
        }

        /** The power product of one variable, 1 to 3. */
        static int ofVariable(int v) {
            return key(v == 1 ? 1 : 0, v == 2 ? 1 : 0, v == 3 ? 1 : 0);
        }

        /** The power of one variable, 1 to 3. */
        static int powerOf(int key, int v) {
            return v == 1 ? x(key) : v == 2 ? y(key) : z(key);
        }

        static boolean divides(int a, int b) {
            return a <= b && y(a) <= y(b) && z(a) <= z(b) && x(a) <= x(b);
        }

        static int leastCommonMultiple(int a, int b) {
            return key(Math.max(x(a), x(b)), Math.max(y(a), y(b)), Math.max(z(a), z(b)));
        }
    }

    /**
     * A polynomial in t: where its coefficients stand, the lowest first; DEGREE -1 for 0; and the
     * divisor of all of them, where there is one.
     */
    private static final class InT {
        static final int ROOM = MOST_STAIRS + 1;
        int degree = -1;
        final int[] at = new int[ROOM];
        int divisor;

        void set(InT other) {
            degree = other.degree;
            System.arraycopy(other.at, 0, at, 0, ROOM);
        }
    }

    /** Reads texts into lists of terms. */
    private static final class Reader {
        static final int MOST_POLYNOMIALS = 5;
        static final int REST_DEGREE = 20;
        static final int MOST_DIGITS = 4;
        // A term takes two bytes at least, its sign being one of them.
        static final int MOST_TERMS = TAPE_ROOM / 2;

        private byte[] bytes = new byte[0];
        private int size;
        private int at;
        private int variableCount;
        private int mostDegree;
        // The terms of all polynomials: power product, and the powers as x, y, z bytes of an int.
        final int[] key = new int[MOST_TERMS];
        final int[] powers = new int[MOST_TERMS];
        final int[] coefficient = new int[MOST_TERMS];
        private int terms;
        final int[] firstTerm = new int[MOST_POLYNOMIALS + 2];
        int polynomials;

        /** Answers the PLACE of the first FAULT, -1 if there is none. */
        int readSystem(byte[] text, int length, int n) {
            begin(text, length, n, n == 1 ? 6 : n == 2 ? 3 : 2);
            for (int i = 0; i <= MOST_POLYNOMIALS; i++) {
                if (at == size && i > 0) {
                    return -1;
                }
                if (i == MOST_POLYNOMIALS) {
                    break;
                }
                int fault = readPolynomial();
                if (fault >= 0) {
                    return fault;
                }
                if (at == size) {
                    return -1;
                }
                if (bytes[at] != ';') {
                    return at;
                }
                step();
            }
            return at;
        }

        /** Reads one polynomial that fills the text. */
        int readOne(byte[] text, int length, int n) {
            begin(text, length, n, REST_DEGREE);
            int fault = readPolynomial();
            if (fault >= 0) {
                return fault;
            }
            sortByPowers();
            return at == size ? -1 : at;
        }

        private void begin(byte[] text, int length, int n, int most) {
            bytes = text;
            size = Math.min(length, text.length);
            variableCount = n;
            mostDegree = most;
            terms = 0;
            polynomials = 0;
            at = -1;
            step();
        }

        private void step() {
            at = Math.min(at + 1, size);
            for (int i = at; i < size && (bytes[i] == 32 || bytes[i] == 10); i++) {
                at = i + 1;
            }
        }

        private boolean atSign() {
            return at < size && (bytes[at] == '+' || bytes[at] == '-');
        }

        private boolean atDigit() {
            return at < size && bytes[at] >= '0' && bytes[at] <= '9';
        }

        private int readPolynomial() {
            int fault = -1;
            firstTerm[polynomials] = terms;
            for (int i = 0; i < TAPE_ROOM && fault < 0; i++) {
                boolean below = at < size && bytes[at] == '-';
                if (atSign()) {
                    step();
                }
                fault = readTerm(below);
                if (!atSign()) {
                    break;
                }
            }
            polynomials++;
            firstTerm[polynomials] = terms;
            return fault;
        }

        private int readTerm(boolean below) {
            int start = at;
            int number = 0;
            for (int i = 0; i < MOST_DIGITS && atDigit(); i++) {
                number = number * 10 + bytes[at] - '0';
                step();
            }
            boolean bare = at == start;
            if (bare) {
                number = 1;
            }
            int x = 0;
            int y = 0;
            int z = 0;
            for (int i = 0; i < TAPE_ROOM && at < size && bytes[at] >= 'x' && bytes[at] <= 'z'; i++) {
                int v = bytes[at] - 'x' + 1;
                if (v > variableCount) {
                    return at;
                }
                step();
                int power = readPower();
                x += v == 1 ? power : 0;
                y += v == 2 ? power : 0;
                z += v == 3 ? power : 0;
            }
            if (bare && at == start) {
                return at;
            }
            if (x + y + z > mostDegree) {
                return start;
            }
            addTerm(Powers.key(x, y, z), x << 16 | y << 8 | z, below ? -number : number);
            return -1;
        }

        private int readPower() {
            if (!atDigit()) {
                return 1;
            }
            int power = bytes[at] - '0';
            step();
            return power;
        }

        private void addTerm(int newKey, int newPowers, int number) {
            for (int i = firstTerm[polynomials]; i < terms; i++) {
                if (key[i] == newKey) {
                    coefficient[i] += number;
                    return;
                }
            }
            if (terms < MOST_TERMS) {
                key[terms] = newKey;
                powers[terms] = newPowers;
                coefficient[terms] = number;
                terms++;
            }
        }

        /** The greatest power product below a bound that polynomial i has; -1 if there is none. */
        int termBelow(int i, int bound) {
            int best = -1;
            for (int t = firstTerm[i]; t < firstTerm[i + 1]; t++) {
                boolean better = best < 0 || key[t] > key[best];
                if (coefficient[t] != 0 && key[t] < bound && better) {
                    best = t;
                }
            }
            return best;
        }

        private void sortByPowers() {
            for (int i = 1; i < terms; i++) {
                int p = powers[i];
                int k = key[i];
                int c = coefficient[i];
                int j = i;
                for (; j > 0 && powers[j - 1] < p; j--) {
                    powers[j] = powers[j - 1];
                    key[j] = key[j - 1];
                    coefficient[j] = coefficient[j - 1];
                }
                powers[j] = p;
                key[j] = k;
                coefficient[j] = c;
            }
        }
    }

    /** Writes the TEXT. */
    private static final class Pen {
        static final int GROUP = 1000000000;
        static final int GROUP_DIGITS = 9;
        static final int MOST_BYTES = 1 << 20;

        private final Numbers numbers;
        byte[] text = new byte[256];
        int size;

        Pen(Numbers numbers) {
            this.numbers = numbers;
        }

        void clear() {
            size = 0;
        }

        private void put(int letter) {
            if (size == text.length && size < MOST_BYTES) {
                text = Arrays.copyOf(text, 2 * size);
            }
            if (size < text.length) {
                text[size] = (byte) letter;
                size++;
            }
        }

        private void putSmall(int value, int digits) {
            int unit = 1;
            for (int i = 1; i < digits; i++) {
                unit *= 10;
            }
            for (int i = 0; i < digits && unit > 0; i++) {
                put('0' + value / unit % 10);
                unit /= 10;
            }
        }

        private int digitsOf(int value) {
            int digits = 1;
            for (int left = value / 10; left > 0 && digits < GROUP_DIGITS; left /= 10) {
                digits++;
            }
            return digits;
        }

        void writeWhole(int a) {
            if (numbers.signOf(a) < 0) {
                put('-');
            }
            writeDigits(a);
        }

        /** Splits the number into groups of nine digits, which stand behind it, the lowest first. */
        private void writeDigits(int a) {
            int n = numbers.sizeOf(a);
            int mark = numbers.top;
            if (!numbers.fits(3 * n + 4)) {
                return;
            }
            int[] w = numbers.w;
            System.arraycopy(w, a, w, mark, n + 1);
            int groups = mark + 1 + n;
            int count = 0;
            for (int left = n; count <= 2 * n && (left > 0 || count == 0); count++) {
                long carry = 0;
                for (int i = left; i > 0; i--) {
                    long t = (carry << Numbers.WORD) | w[mark + i];
                    w[mark + i] = (int) (t / GROUP);
                    carry = t % GROUP;
                }
                w[groups + count] = (int) carry;
                for (int i = 0; i < 2 && left > 0 && w[mark + left] == 0; i++) {
                    left--;
                }
            }
            for (int i = count - 1; i >= 0; i--) {
                int group = w[groups + i];
                putSmall(group, i == count - 1 ? digitsOf(group) : GROUP_DIGITS);
            }
        }

        /** The sign, and the number if it has to stand there. */
        private void writeCoefficient(int a, boolean first, boolean alone) {
            if (numbers.signOf(a) < 0) {
                put('-');
            } else if (!first) {
                put('+');
            }
            boolean isUnit = numbers.sizeOf(a) == 1 && numbers.w[a + 1] == 1;
            if (alone || !isUnit) {
                writeDigits(a);
            }
        }

        private void writeFactor(int letter, int power) {
            if (power > 0) {
                put(letter);
            }
            if (power > 1) {
                putSmall(power, digitsOf(power));
            }
        }

        /** A power product; if it is 1 that is written only if it stands alone. */
        void writePowers(int key, boolean alone) {
            writeFactor('x', Powers.x(key));
            writeFactor('y', Powers.y(key));
            writeFactor('z', Powers.z(key));
            if (key == 0 && alone) {
                put('1');
            }
        }

        /** A polynomial of x, y, z; its divisor, if it has one, is left out. */
        void writeTerms(int f) {
            int before = size;
            int t = f + 2;
            for (int i = 0; i < numbers.w[f]; i++) {
                int key = numbers.w[t];
                if (key >= 0) {
                    writeCoefficient(t + 1, size == before, key == 0);
                    writePowers(key, false);
                }
                t = numbers.next(t + 1);
            }
            if (size == before) {
                put('0');
            }
        }

        void writeInT(InT f) {
            for (int i = f.degree; i >= 0 && i < InT.ROOM; i--) {
                if (numbers.signOf(f.at[i]) != 0) {
                    writeCoefficient(f.at[i], i == f.degree, i == 0);
                    writeFactor('t', i);
                }
            }
            if (f.degree < 0) {
                put('0');
            }
        }

        void writeDivisor(int a) {
            if (!numbers.isOne(a)) {
                put('/');
                writeDigits(a);
            }
        }
    }

    /**
     * The reduced Groebner basis, by Buchberger's way. A polynomial is a piece of the row of
     * numbers: how many terms, how many words in all, then the terms, the greatest first, each a
     * power product and a number. One with fractions has its divisor as a last term, with a power
     * product below all others: so whatever multiplies the polynomial multiplies the divisor too.
     */
    private static final class Ideal {
        static final int MOST = 64;
        static final int MOST_PAIRS = 256;
        static final int MOST_STEPS = 1000000;
        static final int DIVISOR = -(1 << 30);
        static final int SLACK = 64;
        static final int TERM_WORDS = 8;

        private final Numbers numbers;
        final int[] at = new int[MOST];
        final int[] lead = new int[MOST];
        private final boolean[] live = new boolean[MOST];
        int count;
        private final int[] pairFirst = new int[MOST_PAIRS];
        private final int[] pairSecond = new int[MOST_PAIRS];
        private final int[] pairMultiple = new int[MOST_PAIRS];
        private int pairs;
        private final boolean[] wanted = new boolean[MOST];
        private final int[] multiple = new int[MOST];
        // Horner's scheme for x, y, z, each inside the one before.
        private final int[] level = new int[3];

        Ideal(Numbers numbers) {
            this.numbers = numbers;
        }

        /** Finds a basis that need not be reduced yet. */
        void build(Reader reader) {
            numbers.top = Numbers.FIRST_FREE;
            count = 0;
            pairs = 0;
            for (int i = 0; i < reader.polynomials; i++) {
                int f = fromReader(reader, i);
                enter(reduce(f, 0));
            }
            for (int i = 0; i < MOST_STEPS && pairs > 0; i++) {
                int p = leastPair();
                int f = syzygy(pairFirst[p], pairSecond[p], pairMultiple[p]);
                removePair(p);
                enter(reduce(f, 0));
            }
        }

        private int fromReader(Reader reader, int i) {
            int most = reader.firstTerm[i + 1] - reader.firstTerm[i];
            if (!numbers.fits(TERM_WORDS * (most + 1))) {
                return Numbers.NO_TERMS;
            }
            int f = start();
            int n = 0;
            int t = reader.termBelow(i, Integer.MAX_VALUE);
            for (; n < most && t >= 0; n++) {
                addTerm(reader.key[t], reader.coefficient[t]);
                t = reader.termBelow(i, reader.key[t]);
            }
            return finish(f, n);
        }

        /** Begins a polynomial for which room has been made. */
        private int start() {
            numbers.top += 2;
            return numbers.top - 2;
        }

        private int finish(int f, int terms) {
            numbers.w[f] = terms;
            numbers.w[f + 1] = numbers.top - f;
            return f;
        }

        private void addTerm(int key, long coefficient) {
            numbers.w[numbers.top] = key;
            numbers.top++;
            numbers.of(coefficient);
        }

        /** The polynomial at the row's end moves down to the mark. */
        private int moveDown(int mark, int f) {
            if (f < Numbers.FIRST_FREE) {
                numbers.top = mark;
                return f;
            }
            int n = numbers.w[f + 1];
            System.arraycopy(numbers.w, f, numbers.w, mark, n);
            numbers.top = mark + n;
            return mark;
        }

        /** A new element of the basis, if it is not 0. */
        private void enter(int f) {
            if (numbers.w[f] == 0 || count >= MOST) {
                return;
            }
            makeLeadPositive(f);
            int h = count;
            at[h] = f;
            lead[h] = numbers.w[f + 2];
            if (lead[h] == 0) {
                pairs = 0;
            } else {
                dropOldPairs(h);
                addNewPairs(h);
            }
            for (int i = 0; i < h; i++) {
                live[i] = live[i] && !Powers.divides(lead[h], lead[i]);
            }
            live[h] = true;
            count++;
        }

        private void makeLeadPositive(int f) {
            int t = f + 2;
            if (numbers.w[t + 1] < 0) {
                for (int i = 0; i < numbers.w[f]; i++) {
                    numbers.negate(t + 1);
                    t = numbers.next(t + 1);
                }
            }
        }

        /** Gebauer's and Moeller's rules: which pairs need not be looked at. */
        private void dropOldPairs(int h) {
            for (int p = pairs - 1; p >= 0; p--) {
                int m = pairMultiple[p];
                if (Powers.divides(lead[h], m)
                        && Powers.leastCommonMultiple(lead[pairFirst[p]], lead[h]) != m
                        && Powers.leastCommonMultiple(lead[pairSecond[p]], lead[h]) != m) {
                    removePair(p);
                }
            }
        }

        private void addNewPairs(int h) {
            for (int i = 0; i < h; i++) {
                wanted[i] = live[i];
                multiple[i] = Powers.leastCommonMultiple(lead[i], lead[h]);
            }
            for (int i = 0; i < h; i++) {
                boolean disjoint = multiple[i] == lead[i] + lead[h];
                for (int j = 0; j < h && wanted[i] && !disjoint; j++) {
                    wanted[i] = j == i || !wanted[j] || !Powers.divides(multiple[j], multiple[i]);
                }
            }
            for (int i = 0; i < h; i++) {
                boolean disjoint = multiple[i] == lead[i] + lead[h];
                if (wanted[i] && !disjoint && pairs < MOST_PAIRS) {
                    pairFirst[pairs] = i;
                    pairSecond[pairs] = h;
                    pairMultiple[pairs] = multiple[i];
                    pairs++;
                }
            }
        }

        private int leastPair() {
            int best = 0;
            for (int p = 1; p < pairs; p++) {
                if (pairMultiple[p] < pairMultiple[best]) {
                    best = p;
                }
            }
            return best;
        }

        private void removePair(int p) {
            pairs--;
            for (int i = p; i < pairs; i++) {
                pairFirst[i] = pairFirst[i + 1];
                pairSecond[i] = pairSecond[i + 1];
                pairMultiple[i] = pairMultiple[i + 1];
            }
        }

        private int syzygy(int i, int j, int key) {
            int mark = numbers.top;
            int a = at[i] + 3;
            int b = at[j] + 3;
            int g = numbers.gcd(a, b);
            int fa = numbers.quo(b, g);
            int fb = numbers.quo(a, g);
            numbers.negate(fb);
            int f = combine(at[i], fa, key - lead[i], at[j], fb, key - lead[j]);
            return moveDown(mark, f);
        }

        /** fa * a * (power product sa) + fb * b * (power product sb). */
        private int combine(int a, int fa, int sa, int b, int fb, int sb) {
            Numbers store = numbers;
            int leftA = store.w[a];
            int leftB = store.w[b];
            int extra = store.sizeOf(fa) + store.sizeOf(fb) + 8;
            int words = 2 * (store.w[a + 1] + store.w[b + 1] + (leftA + leftB + 1) * extra);
            if (!store.fits(words)) {
                return Numbers.NO_TERMS;
            }
            int f = start();
            int n = 0;
            int ta = a + 2;
            int tb = b + 2;
            for (int left = leftA + leftB; left > 0 && leftA + leftB > 0; left--) {
                int keyA = leftA > 0 ? store.w[ta] + sa : Integer.MIN_VALUE;
                int keyB = leftB > 0 ? store.w[tb] + sb : Integer.MIN_VALUE;
                int t = store.top;
                store.w[t] = Math.max(keyA, keyB);
                store.top++;
                int value = store.mul(keyA >= keyB ? fa : fb, keyA >= keyB ? ta + 1 : tb + 1);
                if (keyA == keyB) {
                    int other = store.mul(fb, tb + 1);
                    int both = store.plus(value, store.w[value], other, store.w[other]);
                    value = store.keep(t + 1, both);
                }
                if (keyA >= keyB) {
                    ta = store.next(ta + 1);
                    leftA--;
                }
                if (keyB >= keyA) {
                    tb = store.next(tb + 1);
                    leftB--;
                }
                if (store.w[value] == 0) {
                    store.top = t;
                } else {
                    n++;
                }
            }
            return finish(f, n);
        }

        private int reducer(int key) {
            for (int i = 0; key >= 0 && i < count; i++) {
                if (live[i] && Powers.divides(lead[i], key)) {
                    return i;
                }
            }
            return -1;
        }

        /** Reduces the polynomial at the row's end, but for its first terms; takes out its content. */
        int reduce(int polynomial, int untouched) {
            int f = polynomial;
            int done = untouched;
            int usual = numbers.w[f + 1];
            for (int step = 0; step < MOST_STEPS && done < numbers.w[f]; step++) {
                int t = f + 2;
                for (int i = 0; i < done; i++) {
                    t = numbers.next(t + 1);
                }
                int i = -1;
                for (; done < numbers.w[f]; done++) {
                    i = reducer(numbers.w[t]);
                    if (i >= 0) {
                        break;
                    }
                    t = numbers.next(t + 1);
                }
                if (i >= 0) {
                    f = reduceTerm(f, t, i);
                }
                if (numbers.w[f + 1] > 2 * usual + SLACK) {
                    divideTerms(f, content(f));
                    usual = numbers.w[f + 1];
                }
            }
            divideTerms(f, content(f));
            return f;
        }

        private int reduceTerm(int f, int term, int i) {
            int own = at[i] + 3;
            int g = numbers.gcd(own, term + 1);
            int times = numbers.quo(own, g);
            int away = numbers.quo(term + 1, g);
            numbers.negate(away);
            int key = numbers.w[term] - lead[i];
            int result = combine(f, times, 0, at[i], away, key);
            return moveDown(f, result);
        }

        /** The greatest common factor of the numbers of the row's last polynomial; 0 if it is 0. */
        private int content(int f) {
            int terms = numbers.w[f];
            int t = f + 2;
            int least = terms > 0 ? t + 1 : Numbers.ZERO;
            for (int i = 0; i < terms; i++) {
                if (numbers.sizeOf(t + 1) < numbers.sizeOf(least)) {
                    least = t + 1;
                }
                t = numbers.next(t + 1);
            }
            int mark = numbers.top;
            int g = numbers.copy(least);
            t = f + 2;
            for (int i = 0; i < terms && !isUnit(g); i++) {
                g = numbers.keep(mark, numbers.gcd(g, t + 1));
                t = numbers.next(t + 1);
            }
            return g;
        }

        private boolean isUnit(int a) {
            int size = numbers.w[a];
            return size == 0 || (size == 1 || size == -1) && numbers.w[a + 1] == 1;
        }

        /** Divides the row's last polynomial by a number that stands right behind it. */
        private void divideTerms(int f, int divisor) {
            int terms = numbers.w[f];
            if (isUnit(divisor) || !numbers.fits(4 * numbers.w[f + 1] + SLACK)) {
                numbers.top = f < Numbers.FIRST_FREE ? numbers.top : f + numbers.w[f + 1];
                return;
            }
            int r = start();
            int t = f + 2;
            for (int i = 0; i < terms; i++) {
                numbers.w[numbers.top] = numbers.w[t];
                numbers.top++;
                numbers.quo(t + 1, divisor);
                t = numbers.next(t + 1);
            }
            moveDown(f, finish(r, terms));
        }

        /** Keeps the live elements, the least first, reduced by one another, in the row's beginning. */
        void tidy() {
            int mark = numbers.top;
            int kept = 0;
            for (int i = nextLive(-1); kept < MOST && i >= 0; kept++) {
                multiple[kept] = i;
                i = nextLive(lead[i]);
            }
            for (int k = 0; k < kept; k++) {
                int from = at[multiple[k]];
                int n = numbers.w[from + 1];
                int f = numbers.fits(n) ? numbers.top : Numbers.NO_TERMS;
                if (f != Numbers.NO_TERMS) {
                    System.arraycopy(numbers.w, from, numbers.w, f, n);
                    numbers.top += n;
                    f = reduce(f, 1);
                }
                pairFirst[k] = f;
                pairSecond[k] = lead[multiple[k]];
            }
            int down = mark - Numbers.FIRST_FREE;
            System.arraycopy(numbers.w, mark, numbers.w, Numbers.FIRST_FREE, numbers.top - mark);
            numbers.top -= down;
            for (int k = 0; k < kept; k++) {
                at[k] = Math.max(pairFirst[k] - down, Numbers.NO_TERMS);
                lead[k] = pairSecond[k];
                live[k] = true;
            }
            count = kept;
        }

        /** The live element with the least leading power product above a given one; -1 for none. */
        private int nextLive(int above) {
            int best = -1;
            for (int i = 0; i < count; i++) {
                if (live[i] && lead[i] > above && (best < 0 || lead[i] < lead[best])) {
                    best = i;
                }
            }
            return best;
        }

        int divisorOf(int f) {
            int t = f + 2;
            for (int i = 1; i < numbers.w[f]; i++) {
                t = numbers.next(t + 1);
            }
            return numbers.w[f] > 0 ? t + 1 : Numbers.ZERO;
        }

        /** The REST of the polynomial that was read, with its divisor. */
        int normalForm(Reader reader) {
            int terms = reader.firstTerm[1];
            for (int v = 0; v < 3; v++) {
                level[v] = single(0, 0);
            }
            for (int i = 0; i < terms; i++) {
                int powers = reader.powers[i];
                int next = i + 1 < terms ? reader.powers[i + 1] : 0;
                int deepest = i + 1 < terms ? firstDifference(powers, next) : 0;
                addInto(level[2], single(0, reader.coefficient[i]), 2);
                for (int v = 2; v >= deepest; v--) {
                    int times = powerIn(powers, v) - (v == deepest ? powerIn(next, v) : 0);
                    for (int k = 0; k < times && numbers.w[level[v]] > 1; k++) {
                        multiply(level[v], Powers.ofVariable(v + 1));
                        level[v] = reduce(level[v], 0);
                    }
                    if (v > deepest) {
                        addInto(level[v - 1], level[v], v - 1);
                    }
                }
                for (int v = deepest + 1; v < 3; v++) {
                    level[v] = single(0, 0);
                }
            }
            return reduce(level[0], 0);
        }

        private int powerIn(int powers, int v) {
            return powers >> (16 - 8 * v) & 255;
        }

        private int firstDifference(int a, int b) {
            return powerIn(a, 0) != powerIn(b, 0) ? 0 : powerIn(a, 1) != powerIn(b, 1) ? 1 : 2;
        }

        /** One term, if it is not 0, and the divisor 1. */
        int single(int key, int coefficient) {
            if (!numbers.fits(4 * TERM_WORDS)) {
                return Numbers.NO_TERMS;
            }
            int f = start();
            if (coefficient != 0) {
                addTerm(key, coefficient);
            }
            addTerm(DIVISOR, 1);
            return finish(f, coefficient != 0 ? 2 : 1);
        }

        /** The two last polynomials of the row, with their divisors, become their sum. */
        private void addInto(int low, int high, int v) {
            if (low < Numbers.FIRST_FREE || high < Numbers.FIRST_FREE) {
                return;
            }
            int a = divisorOf(low);
            int b = divisorOf(high);
            int g = numbers.gcd(a, b);
            int fa = numbers.quo(b, g);
            int fb = numbers.quo(a, g);
            numbers.w[high]--;
            level[v] = moveDown(low, combine(low, fa, 0, high, fb, 0));
        }

        /** Multiplies a polynomial that has a divisor by a power product. */
        private void multiply(int f, int key) {
            int t = f + 2;
            for (int k = 1; k < numbers.w[f]; k++) {
                numbers.w[t] += key;
                t = numbers.next(t + 1);
            }
        }
    }

    /** STAIRS, and the rests of their products with each variable: what multiplying does to them. */
    private static final class Quotient {
        static final int DIVISOR = MOST_STAIRS;
        static final int COLUMNS = 3 * MOST_STAIRS;

        private final Numbers numbers;
        private final Ideal ideal;
        boolean infinite;
        int count;
        int variableCount;
        final int[] stairKey = new int[MOST_STAIRS];
        // For each variable and STAIR the numerators of a rest, one a STAIR, and its divisor.
        final int[][] column = new int[COLUMNS][MOST_STAIRS + 1];

        Quotient(Numbers numbers, Ideal ideal) {
            this.numbers = numbers;
            this.ideal = ideal;
        }

        void findStairs(int n) {
            variableCount = n;
            count = 0;
            infinite = false;
            int[] bound = {1, 1, 1};
            for (int v = 1; v <= n; v++) {
                bound[v - 1] = leastPurePower(v);
                infinite = infinite || bound[v - 1] < 0;
            }
            if (infinite) {
                return;
            }
            for (int x = 0; x < bound[0]; x++) {
                for (int y = 0; y < bound[1]; y++) {
                    for (int z = 0; z < bound[2]; z++) {
                        enter(Powers.key(x, y, z));
                    }
                }
            }
        }

        /** The least power of a variable among the leading power products; -1 if there is none. */
        private int leastPurePower(int v) {
            int least = -1;
            for (int i = 0; i < ideal.count; i++) {
                int power = Powers.powerOf(ideal.lead[i], v);
                if (power == Powers.degree(ideal.lead[i]) && (least < 0 || power < least)) {
                    least = power;
                }
            }
            return least;
        }

        private void enter(int key) {
            for (int i = 0; i < ideal.count; i++) {
                if (Powers.divides(ideal.lead[i], key)) {
                    return;
                }
            }
            if (count >= MOST_STAIRS) {
                return;
            }
            int at = count;
            for (; at > 0 && stairKey[at - 1] > key; at--) {
                stairKey[at] = stairKey[at - 1];
            }
            stairKey[at] = key;
            count++;
        }

        int stairNumber(int key) {
            for (int i = 0; i < count; i++) {
                if (stairKey[i] == key) {
                    return i;
                }
            }
            return -1;
        }

        int[] columnOf(int v, int stair) {
            int i = (v - 1) * MOST_STAIRS + stair;
            return column[i >= 0 && i < COLUMNS ? i : 0];
        }

        void findColumns() {
            int one = numbers.of(1);
            for (int v = 1; v <= variableCount; v++) {
                for (int i = 0; i < count; i++) {
                    int key = stairKey[i] + Powers.ofVariable(v);
                    int stair = stairNumber(key);
                    int[] list = columnOf(v, i);
                    if (stair >= 0) {
                        Arrays.fill(list, Numbers.ZERO);
                        list[stair] = one;
                        list[DIVISOR] = one;
                    } else {
                        spread(ideal.reduce(ideal.single(key, 1), 0), list);
                    }
                }
            }
        }

        /** Tells where the numerators of a rest stand, and its divisor. */
        void spread(int f, int[] list) {
            Arrays.fill(list, Numbers.ZERO);
            int t = f + 2;
            for (int i = 0; i < numbers.w[f]; i++) {
                int stair = stairNumber(numbers.w[t]);
                list[stair >= 0 ? stair : DIVISOR] = t + 1;
                t = numbers.next(t + 1);
            }
        }
    }

    /** Work with polynomials in t. */
    private static final class Ring {
        static final int UNKNOWN = 2;
        static final int[] PRIMES = {2147483629, 2147483587, 2147483579, 2147483563, 2147483549,
            2147483543, 2147483497, 2147483489, 2147483477, 2147483423};

        private final Numbers numbers;
        private final InT first = new InT();
        private final InT second = new InT();
        private final InT slope = new InT();
        private final long[] modFirst = new long[InT.ROOM];
        private final long[] modSecond = new long[InT.ROOM];

        Ring(Numbers numbers) {
            this.numbers = numbers;
        }

        void trim(InT f) {
            for (int i = f.degree; i >= 0 && i < InT.ROOM && numbers.w[f.at[i]] == 0; i--) {
                f.degree--;
            }
        }

        void setOne(InT f) {
            f.degree = 0;
            f.at[0] = numbers.of(1);
        }

        /** Divides by the content, and so that the leading coefficient comes above 0. */
        void makePrimitive(InT f) {
            trim(f);
            if (f.degree < 0) {
                return;
            }
            int mark = numbers.top;
            int g = numbers.copy(f.at[f.degree]);
            boolean below = numbers.w[g] < 0;
            for (int i = 0; i <= f.degree && !numbers.isOne(g); i++) {
                g = numbers.keep(mark, numbers.gcd(g, f.at[i]));
            }
            if (below) {
                numbers.w[g] = -Math.abs(numbers.w[g]);
            }
            if (numbers.isOne(g)) {
                return;
            }
            for (int i = 0; i <= f.degree; i++) {
                f.at[i] = numbers.quo(f.at[i], g);
            }
        }

        /** The derivative: what f has in common with it are its repeated factors. */
        InT slopeOf(InT f) {
            slope.degree = f.degree - 1;
            for (int i = 1; i <= f.degree; i++) {
                slope.at[i - 1] = numbers.mul(f.at[i], numbers.of(i));
            }
            return slope;
        }

        /** The greatest common divisor, primitive. */
        void gcd(InT f, InT g, InT result) {
            if (g.degree >= 0 && areCoprime(f, g)) {
                setOne(result);
                return;
            }
            first.set(f);
            second.set(g);
            makePrimitive(second);
            for (int i = 0; i < 2 * InT.ROOM && second.degree > 0; i++) {
                reduceFirst();
                makePrimitive(first);
                result.set(first);
                first.set(second);
                second.set(result);
            }
            if (second.degree == 0) {
                setOne(result);
            } else {
                makePrimitive(first);
                result.set(first);
            }
        }

        /** The first is replaced by its remainder by the second, times some number. */
        private void reduceFirst() {
            int low = second.degree;
            for (int d = first.degree; d >= low; d--) {
                int a = first.at[d];
                int b = second.at[low];
                if (numbers.w[a] != 0) {
                    int g = numbers.gcd(a, b);
                    int fa = numbers.quo(b, g);
                    int fb = numbers.quo(a, g);
                    for (int i = 0; i < d; i++) {
                        int value = numbers.mul(first.at[i], fa);
                        int from = i - d + low;
                        if (from >= 0) {
                            value = numbers.sub(value, numbers.mul(second.at[from], fb));
                        }
                        first.at[i] = value;
                    }
                }
                first.degree = d - 1;
            }
            trim(first);
        }

        /** f divided by one of its divisors, which is primitive. */
        void quotient(InT f, InT g, InT result) {
            int low = g.degree;
            first.set(f);
            result.degree = low < 0 ? -1 : Math.max(-1, f.degree - low);
            for (int d = f.degree; d >= low && low >= 0; d--) {
                int q = numbers.quo(first.at[d], g.at[low]);
                for (int i = 0; i < low; i++) {
                    int to = d - low + i;
                    first.at[to] = numbers.sub(first.at[to], numbers.mul(q, g.at[i]));
                }
                result.at[d - low] = q;
            }
        }

        /**
         * Whether they have no common divisor modulo a prime that leaves f its degree: then they
         * have none at all. (If they have one there, nothing is known.)
         */
        private boolean areCoprime(InT f, InT g) {
            long p = 0;
            for (int i = 0; i < PRIMES.length && p == 0 && f.degree >= 0; i++) {
                p = numbers.modulo(f.at[f.degree], PRIMES[i]) != 0 ? PRIMES[i] : 0;
            }
            if (p == 0) {
                return false;
            }
            for (int i = 0; i < InT.ROOM; i++) {
                modFirst[i] = i <= f.degree ? numbers.modulo(f.at[i], p) : 0;
                modSecond[i] = i <= g.degree ? numbers.modulo(g.at[i], p) : 0;
            }
            long[] a = modFirst;
            long[] b = modSecond;
            for (int i = 0; i < 2 * InT.ROOM; i++) {
                int degree = degreeOf(b);
                if (degree <= 0) {
                    return degree == 0 || degreeOf(a) == 0;
                }
                reduceModulo(a, b, p);
                long[] t = a;
                a = b;
                b = t;
            }
            return false;
        }

        private int degreeOf(long[] a) {
            int degree = -1;
            for (int i = 0; i < a.length; i++) {
                if (a[i] != 0) {
                    degree = i;
                }
            }
            return degree;
        }

        private void reduceModulo(long[] a, long[] b, long p) {
            int low = degreeOf(b);
            if (low < 0) {
                return;
            }
            long inverse = power(b[low], p - 2, p);
            for (int d = a.length - 1; d >= low; d--) {
                long q = a[d] * inverse % p;
                for (int i = 0; i <= low && q != 0; i++) {
                    int to = d - low + i;
                    a[to] = (a[to] + (p - q) * b[i]) % p;
                }
            }
        }

        static long power(long base, long exponent, long p) {
            long result = 1;
            long square = base;
            for (long e = exponent; e > 0 && p > 0; e >>= 1) {
                if ((e & 1) == 1) {
                    result = result * square % p;
                }
                square = square * square % p;
            }
            return result;
        }

        /** f at c / 2^level, times a power of 2. */
        int value(InT f, int c, int level) {
            int x = level < 0 ? numbers.shift(c, -level) : c;
            int up = Math.max(level, 0);
            int mark = numbers.top;
            int r = f.degree < 0 ? Numbers.ZERO : numbers.copy(f.at[f.degree]);
            for (int i = f.degree - 1; i >= 0; i--) {
                int t = numbers.mul(r, x);
                int s = numbers.shift(f.at[i], up * (f.degree - i));
                r = numbers.keep(mark, numbers.plus(t, numbers.w[t], s, numbers.w[s]));
            }
            return r;
        }

        /** The sign that f has everywhere from c / 2^level to (c + 1) / 2^level, if that is clear. */
        int signOver(InT f, int c, int level) {
            int up = Math.max(level, 0);
            int from = numbers.shift(c, up - level);
            int to = numbers.shift(numbers.add(c, numbers.of(1)), up - level);
            boolean below = numbers.w[from] < 0;
            int low = f.degree < 0 ? Numbers.ZERO : f.at[f.degree];
            int high = low;
            for (int i = f.degree - 1; i >= 0; i--) {
                int s = numbers.shift(f.at[i], up * (f.degree - i));
                int least = below ? high : low;
                int most = below ? low : high;
                int a = numbers.mul(least, numbers.w[least] < 0 ? to : from);
                int b = numbers.mul(most, numbers.w[most] < 0 ? from : to);
                low = numbers.add(a, s);
                high = numbers.add(b, s);
            }
            int sign = numbers.signOf(low);
            return sign == numbers.signOf(high) && sign != 0 ? sign : UNKNOWN;
        }
    }

    /**
     * The real zeros of a polynomial in t that has no repeated ones, the least first. Of each is
     * known the floor of 2^level times it, and whether it is that floor by 2^level (it is "met").
     */
    private static final class Roots {
        static final int MOST_NODES = 1000000;
        static final int NONE = 0;
        static final int ONE = 1;
        static final int MET = 2;
        static final int SPLIT = 3;

        private final Numbers numbers;
        private final Ring ring;
        private InT of = new InT();
        int count;
        final int[] level = new int[MOST_STAIRS];
        private final boolean[] met = new boolean[MOST_STAIRS];
        // The sign of the polynomial a little below the zero.
        private final int[] side = new int[MOST_STAIRS];
        private final int[][] floor = new int[MOST_STAIRS][8];
        private final int[] moved = new int[InT.ROOM];
        private final int[] turned = new int[InT.ROOM];

        Roots(Numbers numbers, Ring ring) {
            this.numbers = numbers;
            this.ring = ring;
        }

        /** Descartes' rule on intervals from c to c + 1 by 2^k that are halved where it is unclear. */
        void isolate(InT f) {
            of = f;
            count = 0;
            if (f.degree < 1) {
                return;
            }
            int mark = numbers.top;
            int widest = -boundBits();
            int k = widest;
            int c = numbers.of(-1);
            for (int i = 0; i < MOST_NODES && !(k == widest && numbers.isOne(c)); i++) {
                int kind = inspect(c, k);
                if (kind == ONE || kind == MET) {
                    record(c, k, kind == MET);
                }
                if (kind == SPLIT) {
                    c = numbers.keep(mark, numbers.shift(c, 1));
                    k++;
                } else {
                    c = numbers.keep(mark, numbers.add(c, numbers.of(1)));
                    int up = k - widest;
                    up = numbers.w[c] == 0 ? up : Math.min(up, numbers.evenBits(c));
                    c = numbers.keep(mark, numbers.shift(c, -up));
                    k -= up;
                }
            }
            numbers.top = mark;
        }

        /** All real zeros lie between -2^b and 2^b, by Fujiwara's bound. */
        private int boundBits() {
            int d = of.degree;
            int most = -1000000;
            int own = numbers.bitsOf(of.at[d]);
            for (int i = 1; i <= d; i++) {
                if (numbers.w[of.at[d - i]] != 0) {
                    int bits = numbers.bitsOf(of.at[d - i]) - own + 1;
                    most = Math.max(most, Math.floorDiv(bits + i - 1, i));
                }
            }
            return most == -1000000 ? 0 : most + 1;
        }

        private int inspect(int c, int k) {
            int d = of.degree;
            for (int i = 0; i <= d; i++) {
                moved[i] = numbers.shift(of.at[i], k >= 0 ? k * (d - i) : -k * i);
            }
            for (int i = 0; i < d; i++) {
                for (int j = d - 1; j >= i; j--) {
                    int t = numbers.mul(moved[j + 1], c);
                    moved[j] = numbers.add(moved[j], t);
                }
            }
            boolean atStart = numbers.w[moved[0]] == 0;
            int changes = variations(atStart ? 1 : 0);
            if (changes == 0) {
                return atStart ? MET : NONE;
            }
            return changes == 1 && !atStart ? ONE : SPLIT;
        }

        /** Descartes' bound for the zeros between 0 and 1 of what was moved, without t to a power. */
        private int variations(int without) {
            int d = of.degree - without;
            for (int i = 0; i <= d; i++) {
                turned[i] = moved[of.degree - i];
            }
            if (signChanges(d) == 0) {
                return 0;
            }
            for (int i = 0; i < d; i++) {
                for (int j = d - 1; j >= i; j--) {
                    turned[j] = numbers.add(turned[j], turned[j + 1]);
                }
            }
            return signChanges(d);
        }

        private int signChanges(int d) {
            int changes = 0;
            int last = 0;
            for (int i = 0; i <= d; i++) {
                int sign = numbers.signOf(turned[i]);
                if (sign != 0 && last == -sign) {
                    changes++;
                }
                last = sign != 0 ? sign : last;
            }
            return changes;
        }

        private void record(int c, int k, boolean isMet) {
            if (count < MOST_STAIRS) {
                level[count] = k;
                met[count] = isMet;
                side[count] = numbers.signOf(moved[0]);
                store(count, c);
                count++;
            }
        }

        private void store(int r, int c) {
            int n = 1 + Math.abs(numbers.w[c]);
            if (floor[r].length < n) {
                floor[r] = new int[2 * n];
            }
            System.arraycopy(numbers.w, c, floor[r], 0, n);
        }

        private int load(int r) {
            int n = 1 + Math.abs(floor[r][0]);
            if (!numbers.fits(n)) {
                return Numbers.ZERO;
            }
            int c = numbers.top;
            System.arraycopy(floor[r], 0, numbers.w, c, n);
            numbers.top = c + n;
            return c;
        }

        /** The upper end of what is known of a zero, c + 1: strictly between it and the next. */
        int upperEnd(int r) {
            return numbers.add(load(r), numbers.of(1));
        }

        /** Makes the upper end of each one's interval lie strictly below the next one. */
        void separate() {
            for (int r = 0; r + 1 < count; r++) {
                for (int i = 0; i < MOST_NODES && met[r + 1] && endsAt(r, r + 1); i++) {
                    if (met[r]) {
                        int mark = numbers.top;
                        store(r, numbers.shift(load(r), 1));
                        level[r]++;
                        numbers.top = mark;
                    } else {
                        refine(r, level[r] + 1);
                    }
                }
            }
        }

        private boolean endsAt(int r, int next) {
            int mark = numbers.top;
            int common = Math.max(level[r], level[next]);
            int end = numbers.shift(upperEnd(r), common - level[r]);
            int start = numbers.shift(load(next), common - level[next]);
            boolean alike = numbers.compare(end, start) == 0;
            numbers.top = mark;
            return alike;
        }

        /** Abbott's way: a guess by the chord, twice as fine each time as long as it is right. */
        void refine(int r, int target) {
            int fine = 1;
            int mark = numbers.top;
            for (int i = 0; i < MOST_NODES && !met[r] && level[r] < target; i++) {
                int step = Math.min(fine, target - level[r]);
                int c = load(r);
                int guess = step == 1 ? numbers.add(numbers.shift(c, 1), numbers.of(1)) : chord(c, r, step);
                boolean good = tryGuess(r, guess, step);
                numbers.top = mark;
                fine = good ? 2 * fine : Math.max(1, fine / 2);
            }
        }

        /** Where the chord over the interval meets 0, by 2^-step finer, but not at the ends. */
        private int chord(int c, int r, int step) {
            int a = ring.value(of, c, level[r]);
            int b = ring.value(of, numbers.add(c, numbers.of(1)), level[r]);
            int part = numbers.quo(numbers.shift(a, step + 1), numbers.sub(a, b));
            int whole = numbers.shift(numbers.add(part, numbers.of(1)), -1);
            int most = numbers.sub(numbers.shift(numbers.of(1), step), numbers.of(1));
            if (numbers.w[whole] <= 0) {
                whole = numbers.of(1);
            }
            if (numbers.compare(whole, most) > 0) {
                whole = most;
            }
            return numbers.add(numbers.shift(c, step), whole);
        }

        /** Looks whether the zero lies right below or right above the guess. */
        private boolean tryGuess(int r, int guess, int step) {
            int k = level[r] + step;
            int sign = numbers.signOf(ring.value(of, guess, k));
            if (sign == 0) {
                return pin(r, guess, k, true);
            }
            int other = numbers.add(guess, numbers.of(sign == side[r] ? 1 : -1));
            if (step == 1) {
                return pin(r, sign == side[r] ? guess : other, k, false);
            }
            int otherSign = numbers.signOf(ring.value(of, other, k));
            if (otherSign == 0) {
                return pin(r, other, k, true);
            }
            return otherSign != sign && pin(r, sign == side[r] ? guess : other, k, false);
        }

        private boolean pin(int r, int c, int k, boolean isMet) {
            store(r, c);
            level[r] = k;
            met[r] = isMet;
            return true;
        }

        int floorAt(int r, int k) {
            refine(r, k);
            return knownFloor(r, k);
        }

        /** The floor of 2^k times a zero that is known as finely as that. */
        int knownFloor(int r, int k) {
            return numbers.shift(load(r), k - level[r]);
        }

        /** Whether 2^k times the zero is whole. */
        boolean meetsGrid(int r, int k) {
            refine(r, k);
            int mark = numbers.top;
            int c = load(r);
            int even = numbers.w[c] == 0 ? level[r] : numbers.evenBits(c);
            numbers.top = mark;
            return met[r] && level[r] - k <= even;
        }

        /** The sign of a polynomial at a zero, if what is known of the zero makes it clear. */
        int signAt(InT f, int r) {
            int mark = numbers.top;
            int c = load(r);
            int sign = met[r] ? numbers.signOf(ring.value(f, c, level[r])) : ring.signOver(f, c, level[r]);
            numbers.top = mark;
            return sign;
        }

        /** A level at which more may be clear after so many trials. */
        int finer(int r, int trials) {
            return level[r] + (8 << Math.min(trials, 10));
        }

        /** Whether a zero is one of a divisor of the polynomial, too. */
        boolean isRootOf(InT divisor, int r) {
            int mark = numbers.top;
            int sign = numbers.signOf(ring.value(divisor, load(r), level[r]));
            if (met[r]) {
                numbers.top = mark;
                return sign == 0;
            }
            int endSign = numbers.signOf(ring.value(divisor, upperEnd(r), level[r]));
            numbers.top = mark;
            return sign != endSign;
        }
    }

    /** The quotient modulo a prime. */
    private static final class Shadow {
        private final Numbers numbers;
        private final Quotient quotient;
        private final long[][] matrix = new long[Quotient.COLUMNS][MOST_STAIRS];
        // Row i, if it is there, begins with a 1 at place i.
        private final long[][] reduced = new long[MOST_STAIRS][MOST_STAIRS];
        private final long[] polynomial = new long[InT.ROOM];
        private final long[] image = new long[MOST_STAIRS];
        private final long[] next = new long[MOST_STAIRS];

        Shadow(Numbers numbers, Quotient quotient) {
            this.numbers = numbers;
            this.quotient = quotient;
        }

        /** Of the space that the eliminants make of the STAIRS; -1 if the prime is of no use. */
        int rankOfRadical(InT[] eliminants, long p) {
            if (p <= 0) {
                return -1;
            }
            int rank = 0;
            for (int i = 0; i < MOST_STAIRS; i++) {
                Arrays.fill(reduced[i], 0);
            }
            for (int v = 1; v <= quotient.variableCount; v++) {
                if (!loadMatrix(v, p)) {
                    return -1;
                }
                for (int i = 0; i < InT.ROOM; i++) {
                    boolean there = i <= eliminants[v].degree;
                    polynomial[i] = there ? numbers.modulo(eliminants[v].at[i], p) : 0;
                }
                for (int a = 0; a < quotient.count; a++) {
                    apply(v, a, p);
                    rank += enter(p) ? 1 : 0;
                }
            }
            return rank;
        }

        private boolean loadMatrix(int v, long p) {
            for (int a = 0; a < quotient.count; a++) {
                int[] column = quotient.columnOf(v, a);
                long divisor = numbers.modulo(column[Quotient.DIVISOR], p);
                if (divisor == 0) {
                    return false;
                }
                long inverse = Ring.power(divisor, p - 2, p);
                for (int i = 0; i < quotient.count; i++) {
                    long value = numbers.modulo(column[i], p) * inverse % p;
                    matrix[(v - 1) * MOST_STAIRS + a][i] = value;
                }
            }
            return true;
        }

        /** What the polynomial in a variable makes of a STAIR, by Horner's scheme. */
        private void apply(int v, int stair, long p) {
            int n = quotient.count;
            Arrays.fill(image, 0);
            for (int d = InT.ROOM - 1; d >= 0; d--) {
                Arrays.fill(next, 0);
                for (int a = 0; a < n; a++) {
                    long[] column = matrix[(v - 1) * MOST_STAIRS + a];
                    for (int i = 0; i < n && image[a] != 0; i++) {
                        next[i] = (next[i] + image[a] * column[i]) % p;
                    }
                }
                next[stair] = (next[stair] + polynomial[d]) % p;
                System.arraycopy(next, 0, image, 0, MOST_STAIRS);
            }
        }

        /** Adds the image to the reduced rows; whether it was not there yet. */
        private boolean enter(long p) {
            for (int i = 0; i < quotient.count; i++) {
                if (image[i] != 0 && reduced[i][i] == 0) {
                    long inverse = Ring.power(image[i], p - 2, p);
                    for (int j = i; j < MOST_STAIRS; j++) {
                        reduced[i][j] = image[j] * inverse % p;
                    }
                    return true;
                }
                long away = p - image[i];
                for (int j = i; j < MOST_STAIRS && image[i] != 0; j++) {
                    next[j] = (image[j] + away * reduced[i][j]) % p;
                }
                if (image[i] != 0) {
                    System.arraycopy(next, i, image, i, MOST_STAIRS - i);
                }
            }
            return false;
        }
    }

    /** ZEROS of a system that is not INFINITE, by the traces of what multiplies the STAIRS. */
    private static final class Points {
        // With two variables each of 36 pairs of ZEROS at most is alike for one k at most, with
        // three each of 28 for two: some k up to 56 tells all apart.
        static final int LAST_FORM = 60;
        private static final int TRIALS = 40;
        private static final int FORM_DIVISOR = MOST_STAIRS * MOST_STAIRS;
        private static final int REPEATED = FORM_DIVISOR + 1;
        private static final int LIST = REPEATED + InT.ROOM;

        private final Numbers numbers;
        private final Quotient quotient;
        private final Ring ring;
        private final Shadow shadow;
        final InT[] eliminants = new InT[4];
        final InT[] fractions = new InT[4];
        final Roots[] roots = new Roots[4];
        int formStep;
        final int[] multiple = new int[MOST_STAIRS];
        final int[] ranks = new int[4 * MOST_STAIRS];
        private int zeroBound;
        // The traces of the STAIRS, and their divisor.
        private final int[] trace = new int[MOST_STAIRS + 1];
        // Traces of the STAIRS times powers of a form, times powers of its divisor.
        private final int[][] row = new int[MOST_STAIRS + 1][MOST_STAIRS];
        private final int[] factor = new int[Quotient.COLUMNS];
        private final int[] weight = new int[4];
        private final InT whole = new InT();
        private final InT simple = new InT();
        private final InT repeated = new InT();
        private final int[] kept = new int[LIST];
        private final int[] vector = new int[MOST_STAIRS + 1];

        Points(Numbers numbers, Quotient quotient) {
            this.numbers = numbers;
            this.quotient = quotient;
            ring = new Ring(numbers);
            shadow = new Shadow(numbers, quotient);
            for (int v = 0; v < 4; v++) {
                eliminants[v] = new InT();
                fractions[v] = new InT();
                roots[v] = new Roots(numbers, ring);
            }
        }

        int zeroCount() {
            return Math.max(0, eliminants[0].degree);
        }

        int realCount() {
            return roots[0].count;
        }

        /** The traces: each STAIR hands its row on to the one that it is a multiple of. */
        void begin() {
            Arrays.fill(ranks, -1);
            eliminants[0].degree = -1;
            int n = quotient.count;
            int mark = numbers.top;
            Arrays.fill(weight, 1);
            int divisor = commonDivisor();
            int highest = n > 0 ? Powers.degree(quotient.stairKey[n - 1]) : 0;
            int power = numbers.of(1);
            for (int i = 0; i <= n; i++) {
                Arrays.fill(row[i], Numbers.ZERO);
            }
            for (int i = n - 1; i >= 0; i--) {
                int degree = Powers.degree(quotient.stairKey[i]);
                for (; highest > degree; highest--) {
                    power = numbers.mul(power, divisor);
                }
                row[i][i] = numbers.add(row[i][i], power);
                if (i > 0) {
                    handOn(i);
                }
            }
            System.arraycopy(row[0], 0, trace, 0, MOST_STAIRS);
            trace[MOST_STAIRS] = power;
            lowestTerms(trace, MOST_STAIRS, MOST_STAIRS);
            numbers.settle(mark, trace, MOST_STAIRS + 1);
        }

        private void handOn(int i) {
            int key = quotient.stairKey[i];
            int v = Powers.x(key) > 0 ? 1 : Powers.y(key) > 0 ? 2 : 3;
            int parent = Math.max(0, quotient.stairNumber(key - Powers.ofVariable(v)));
            for (int a = 0; a < quotient.count; a++) {
                row[parent][a] = numbers.add(row[parent][a], product(row[i], v, a));
            }
        }

        /** A row by what a variable makes of a STAIR, times the common divisor. */
        private int product(int[] list, int v, int stair) {
            int[] column = quotient.columnOf(v, stair);
            int mark = numbers.top;
            int sum = Numbers.ZERO;
            for (int i = 0; i < quotient.count; i++) {
                if (numbers.w[list[i]] != 0 && numbers.w[column[i]] != 0) {
                    sum = numbers.add(sum, numbers.mul(list[i], column[i]));
                }
            }
            return numbers.keep(mark, numbers.mul(sum, factor[(v - 1) * MOST_STAIRS + stair]));
        }

        /** The least common multiple of the divisors that the weights use; then each one's factor. */
        private int commonDivisor() {
            int divisor = numbers.of(1);
            for (int v = 1; v <= quotient.variableCount; v++) {
                for (int a = 0; a < quotient.count && weight[v] != 0; a++) {
                    int own = quotient.columnOf(v, a)[Quotient.DIVISOR];
                    int g = numbers.gcd(divisor, own);
                    if (numbers.compareSizes(g, own) != 0) {
                        divisor = numbers.mul(divisor, numbers.quo(own, g));
                    }
                }
            }
            for (int v = 1; v <= quotient.variableCount; v++) {
                for (int a = 0; a < quotient.count && weight[v] != 0; a++) {
                    int own = quotient.columnOf(v, a)[Quotient.DIVISOR];
                    factor[(v - 1) * MOST_STAIRS + a] = numbers.quo(divisor, own);
                }
            }
            return divisor;
        }

        /** Divides the first numbers of a list and the divisor among them by what all have. */
        private void lowestTerms(int[] list, int count, int divisor) {
            int mark = numbers.top;
            int g = numbers.copy(list[divisor]);
            for (int i = 0; i < count && !numbers.isOne(g); i++) {
                g = numbers.keep(mark, numbers.gcd(g, list[i]));
            }
            if (!numbers.isOne(g)) {
                for (int i = 0; i < count; i++) {
                    list[i] = numbers.quo(list[i], g);
                }
                list[divisor] = numbers.quo(list[divisor], g);
            }
        }

        /** The rows for the form with the weights; answers its divisor. */
        private int findRows() {
            int divisor = commonDivisor();
            int n = quotient.count;
            System.arraycopy(trace, 0, row[0], 0, MOST_STAIRS);
            for (int i = 1; i <= n; i++) {
                for (int a = 0; a < n; a++) {
                    int mark = numbers.top;
                    int sum = Numbers.ZERO;
                    for (int v = 1; v <= quotient.variableCount; v++) {
                        if (weight[v] != 0) {
                            int part = product(row[i - 1], v, a);
                            sum = numbers.add(sum, numbers.mul(part, numbers.of(weight[v])));
                        }
                    }
                    row[i][a] = numbers.keep(mark, sum);
                }
            }
            return divisor;
        }

        /** The characteristic polynomial of the form, by Newton's identities; primitive. */
        private void findWhole(int divisor) {
            int n = quotient.count;
            whole.degree = n;
            whole.at[n] = numbers.of(1);
            for (int j = 1; j <= n; j++) {
                int sum = Numbers.ZERO;
                for (int i = 1; i <= j; i++) {
                    int powerSum = numbers.quo(row[i][0], trace[MOST_STAIRS]);
                    sum = numbers.add(sum, numbers.mul(whole.at[n - j + i], powerSum));
                }
                whole.at[n - j] = numbers.quo(sum, numbers.of(-j));
            }
            int power = numbers.of(1);
            for (int i = 1; i <= n; i++) {
                power = numbers.mul(power, divisor);
                whole.at[i] = numbers.mul(whole.at[i], power);
            }
            ring.makePrimitive(whole);
        }

        void eliminateVariable(int v) {
            for (int i = 1; i <= 3; i++) {
                weight[i] = i == v ? 1 : 0;
            }
            int mark = numbers.top;
            findWhole(findRows());
            ring.gcd(whole, ring.slopeOf(whole), repeated);
            ring.quotient(whole, repeated, eliminants[v]);
            numbers.settle(mark, eliminants[v].at, eliminants[v].degree + 1);
        }

        /**
         * There are no more ZEROS than STAIRS less the rank of what the eliminants of the variables
         * make of the STAIRS (they make the radical), and that rank is no greater modulo a prime.
         */
        void boundZeros() {
            zeroBound = quotient.count;
            int rank = -1;
            for (int i = 0; i < Ring.PRIMES.length && rank < 0; i++) {
                rank = shadow.rankOfRadical(eliminants, Ring.PRIMES[i]);
            }
            zeroBound -= Math.max(0, rank);
        }

        private void setForm(int k) {
            weight[1] = 1;
            weight[2] = quotient.variableCount > 1 ? k : 0;
            weight[3] = quotient.variableCount > 2 ? k * k : 0;
        }

        /** Takes the form if it has more values than those before; tells if that are all ZEROS. */
        boolean tryForm(int k) {
            if (k == 0) {
                formStep = 0;
                eliminants[0].set(eliminants[1]);
            } else {
                int mark = numbers.top;
                setForm(k);
                findWhole(findRows());
                ring.gcd(whole, ring.slopeOf(whole), repeated);
                ring.quotient(whole, repeated, simple);
                if (simple.degree > eliminants[0].degree) {
                    formStep = k;
                    eliminants[0].set(simple);
                    numbers.settle(mark, eliminants[0].at, simple.degree + 1);
                } else {
                    numbers.top = mark;
                }
            }
            return eliminants[0].degree >= zeroBound || quotient.variableCount == 1;
        }

        /** Keeps what fractions and signs need of the form. */
        void fixForm() {
            int mark = numbers.top;
            setForm(formStep);
            int divisor = findRows();
            findWhole(divisor);
            ring.quotient(whole, eliminants[0], repeated);
            Arrays.fill(kept, Numbers.ZERO);
            for (int i = 0; i < quotient.count; i++) {
                System.arraycopy(row[i], 0, kept, i * MOST_STAIRS, quotient.count);
            }
            kept[FORM_DIVISOR] = divisor;
            System.arraycopy(repeated.at, 0, kept, REPEATED, Math.max(0, repeated.degree + 1));
            numbers.settle(mark, kept, LIST);
            System.arraycopy(kept, REPEATED, repeated.at, 0, InT.ROOM);
        }

        void findFractions() {
            for (int v = 0; v <= quotient.variableCount; v++) {
                int mark = numbers.top;
                Arrays.fill(vector, Numbers.ZERO);
                if (quotient.count > 0) {
                    if (v == 0) {
                        vector[0] = numbers.of(1);
                        vector[MOST_STAIRS] = vector[0];
                    } else {
                        System.arraycopy(quotient.columnOf(v, 0), 0, vector, 0, MOST_STAIRS + 1);
                    }
                }
                int divisor = findFraction(fractions[v]);
                int d = zeroCount();
                System.arraycopy(fractions[v].at, 0, vector, 0, d);
                vector[MOST_STAIRS] = divisor;
                lowestTerms(vector, d, MOST_STAIRS);
                numbers.settle(mark, vector, MOST_STAIRS + 1);
                System.arraycopy(vector, 0, fractions[v].at, 0, d);
                fractions[v].divisor = d > 0 ? vector[MOST_STAIRS] : numbers.of(1);
                ring.trim(fractions[v]);
            }
        }

        /** The sum over all ZEROS of MULTIPLICITY * f * E / (t - u) for the vector f: its divisor. */
        private int findFraction(InT result) {
            int d = zeroCount();
            int power = numbers.of(1);
            result.degree = d - 1;
            for (int i = 0; i < d; i++) {
                result.at[i] = Numbers.ZERO;
            }
            for (int i = d - 1; i >= 0; i--) {
                int sum = Numbers.ZERO;
                for (int a = 0; a < quotient.count; a++) {
                    int part = numbers.mul(vector[a], kept[i * MOST_STAIRS + a]);
                    sum = numbers.add(sum, part);
                }
                sum = numbers.mul(sum, power);
                for (int s = 0; s + i < d; s++) {
                    int part = numbers.mul(eliminants[0].at[s + i + 1], sum);
                    result.at[s] = numbers.add(result.at[s], part);
                }
                if (i > 0) {
                    power = numbers.mul(power, kept[FORM_DIVISOR]);
                }
            }
            int divisor = numbers.mul(vector[MOST_STAIRS], trace[MOST_STAIRS]);
            return numbers.mul(divisor, power);
        }

        /** A zero of the repeated part has one more of it for each time that it comes up there. */
        void findMultiplicities() {
            int mark = numbers.top;
            Arrays.fill(multiple, 1);
            for (int i = 0; i < MOST_STAIRS && repeated.degree > 0; i++) {
                whole.set(repeated);
                ring.gcd(whole, ring.slopeOf(whole), repeated);
                ring.quotient(whole, repeated, simple);
                for (int j = 0; j < realCount(); j++) {
                    if (roots[0].isRootOf(simple, j)) {
                        multiple[j]++;
                    }
                }
            }
            numbers.top = mark;
        }

        /** The sign of the derivative of the eliminant of the form, and so of W 0, at a real zero. */
        private int slopeAt(int j) {
            return (realCount() - j) % 2 == 0 ? -1 : 1;
        }

        /** Which real zero of the eliminant of a variable the coordinate is, by halving. */
        int rankOf(int j, int v) {
            int known = ranks[v * MOST_STAIRS + j];
            if (known >= 0) {
                return known;
            }
            int low = 0;
            int high = Math.max(0, roots[v].count - 1);
            for (int i = 0; i < MOST_STAIRS && low < high; i++) {
                int mid = (low + high) / 2;
                int mark = numbers.top;
                setDifference(v, mid);
                int sign = roots[0].signAt(simple, j);
                for (int t = 0; t < TRIALS && sign == Ring.UNKNOWN; t++) {
                    roots[0].refine(j, roots[0].finer(j, t));
                    sign = roots[0].signAt(simple, j);
                }
                boolean above = sign == slopeAt(j);
                numbers.top = mark;
                low = above ? mid + 1 : low;
                high = above ? high : mid;
            }
            ranks[v * MOST_STAIRS + j] = low;
            return low;
        }

        /** W v less W 0 times the upper end of a real zero, times something above 0. */
        private void setDifference(int v, int r) {
            int level = roots[v].level[r];
            int end = roots[v].upperEnd(r);
            int times = numbers.shift(fractions[0].divisor, Math.max(0, level));
            int away = numbers.mul(fractions[v].divisor, numbers.shift(end, Math.max(0, -level)));
            int d = zeroCount();
            for (int i = 0; i < d; i++) {
                int a = i <= fractions[v].degree ? fractions[v].at[i] : Numbers.ZERO;
                int b = i <= fractions[0].degree ? fractions[0].at[i] : Numbers.ZERO;
                simple.at[i] = numbers.sub(numbers.mul(a, times), numbers.mul(b, away));
            }
            simple.degree = d - 1;
            ring.trim(simple);
        }

        /**
         * The least k by which two real zeros, known to the finest, lie in unlike boxes; above the
         * finest for none.
         */
        int levelThatParts(int i, int j) {
            int least = FINEST + 1;
            for (int v = 1; v <= quotient.variableCount; v++) {
                int a = ranks[v * MOST_STAIRS + i];
                int b = ranks[v * MOST_STAIRS + j];
                if (a != b && a >= 0 && b >= 0) {
                    least = Math.min(least, levelThatPartsRoots(roots[v], a, b));
                }
            }
            return least;
        }

        private int levelThatPartsRoots(Roots list, int a, int b) {
            int low = 0;
            int high = FINEST + 1;
            for (int i = 0; i < 10 && low < high; i++) {
                int mid = (low + high) / 2;
                int mark = numbers.top;
                int first = list.knownFloor(a, mid);
                boolean unlike = numbers.compare(first, list.knownFloor(b, mid)) != 0;
                numbers.top = mark;
                low = unlike ? low : mid + 1;
                high = unlike ? mid : high;
            }
            return low;
        }

        /** The sign of a polynomial, of which the rest is given, at a real zero. */
        int signAtZero(int f, int j) {
            quotient.spread(f, vector);
            findFraction(whole);
            ring.trim(whole);
            if (whole.degree < 0) {
                return 0;
            }
            ring.gcd(eliminants[0], whole, simple);
            if (simple.degree > 0 && roots[0].isRootOf(simple, j)) {
                return 0;
            }
            int sign = roots[0].signAt(whole, j);
            for (int t = 0; t < TRIALS && sign == Ring.UNKNOWN; t++) {
                roots[0].refine(j, roots[0].finer(j, t));
                sign = roots[0].signAt(whole, j);
            }
            return sign == slopeAt(j) ? 1 : -1;
        }
    }
}
