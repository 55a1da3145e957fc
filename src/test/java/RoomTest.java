import java.lang.management.ManagementFactory;

/** Long runs of dear calls on one object make little: the rows are used again. */
final class RoomTest {
    private static final Harness H = new Harness();
    // A run may have 7.3 million fields and elements in all; most of those here have four bytes.
    private static final long MOST_BYTES = 4L * 3000000;
    // To ask how much was made makes something, too.
    private static final long OF_THE_MEASURE = 8000;

    public static void main(String[] args) {
        makeMany();
        run("cubics", 2, cubics(), "x9x9x2", "y5x5y5");
        run("quadrics", 3, quadrics(3), "x9x9x2", "x5y5z5");
        run("infinite", 3, quadrics(1), "x9x9x2", "x5x5z5");
        H.end();
    }

    private static long made() {
        var bean = (com.sun.management.ThreadMXBean) ManagementFactory.getThreadMXBean();
        return bean.getThreadAllocatedBytes(Thread.currentThread().getId());
    }

    private static void makeMany() {
        H.name("a hundred objects");
        made();
        long before = made();
        RealSolver last = null;
        for (int i = 0; i < 100; i++) {
            last = new RealSolver();
        }
        H.due("made little", made() - before < 100 * 4L * 15000, true);
        H.due("status", last.status(), 0);
    }

    private static String dense(String[] powers, int seed) {
        StringBuilder text = new StringBuilder();
        for (int i = 0; i < powers.length; i++) {
            text.append((seed >> i & 1) == 0 ? '+' : '-').append((seed * 7919 + i * 6007) % 9000 + 999).append(powers[i]);
        }
        return text.toString();
    }

    private static String cubics() {
        String[] powers = {"", "x", "y", "x2", "xy", "y2", "x3", "x2y", "xy2", "y3"};
        return dense(powers, 345) + ";" + dense(powers, 1234);
    }

    private static String quadrics(int count) {
        String[] powers = {"", "x", "y", "z", "x2", "xy", "y2", "xz", "yz", "z2"};
        StringBuilder text = new StringBuilder(dense(powers, 99));
        for (int i = 1; i < count; i++) {
            text.append(';').append(dense(powers, 99 + 321 * i));
        }
        return text.toString();
    }

    private static void feed(RealSolver s, int[] words) {
        for (int i = 0; i < words.length; i += 5) {
            s.feed(words[i], words[i + 1], words[i + 2], words[i + 3], words[i + 4]);
        }
    }

    private static int[] words(String text) {
        int[] words = new int[(text.length() + 19) / 20 * 5];
        for (int i = 0; i < words.length * 4; i++) {
            words[i / 4] = words[i / 4] << 8 | (i < text.length() ? text.charAt(i) : ' ');
        }
        return words;
    }

    private static void run(String name, int n, String system, String first, String second) {
        H.name(name);
        int[][] texts = {words(system), words(first), words(second)};
        long before = made();
        RealSolver s = new RealSolver();
        s.variables(n);
        long answers = 0;
        long afterTwo = 0;
        for (int round = 0; round < 7; round++) {
            answers += round(s, n, texts);
            afterTwo = round == 1 ? made() : afterTwo;
        }
        long end = made();
        System.out.println(name + ": " + (end - before) + " bytes made");
        H.due("made at most", end - before <= MOST_BYTES, true);
        H.due("nothing is made when all rows have their sizes", end - afterTwo < OF_THE_MEASURE, true);
        H.due("something was answered", answers != 0, true);
        manyOfOneKind(name, n, texts);
    }

    private static long round(RealSolver s, int n, int[][] texts) {
        feed(s, texts[0]);
        long answers = s.solve() + s.real() + s.apart();
        for (int t = 1; t <= 2; t++) {
            feed(s, texts[t]);
            answers += s.rest();
            for (int j = 0; j < 3; j++) {
                feed(s, texts[t]);
                answers += s.sign(j);
                answers += s.floor(j, 1, 128) + s.floor(j, n, 77) + s.rank(j, n);
            }
            s.end(0);
        }
        return answers + s.digest();
    }

    /** As many calls of one kind as one object may have: what each needs is given back. */
    private static void manyOfOneKind(String name, int n, int[][] texts) {
        for (int kind = 0; kind < 4; kind++) {
            H.name(name + ", calls of kind " + kind);
            RealSolver s = new RealSolver();
            s.variables(n);
            feed(s, texts[0]);
            s.solve();
            long before = 0;
            for (int i = 0; i < 150; i++) {
                before = i == 10 ? made() : before;
                if (kind < 2) {
                    feed(s, texts[1]);
                }
                switch (kind) {
                    case 0 -> s.rest();
                    case 1 -> s.sign(0);
                    case 2 -> s.floor(0, n, 128);
                    default -> s.apart();
                }
                s.end(0);
            }
            H.due("nothing is made when all rows have their sizes", made() - before < OF_THE_MEASURE, true);
        }
    }
}
