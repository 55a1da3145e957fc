import java.io.File;
import java.io.PrintWriter;
import java.io.StringWriter;
import java.nio.charset.StandardCharsets;
import java.nio.file.Files;
import java.nio.file.Path;
import java.util.ArrayList;
import java.util.HashMap;
import java.util.HashSet;
import java.util.List;
import java.util.Map;
import java.util.Set;
import java.util.regex.Matcher;
import java.util.regex.Pattern;
import java.util.spi.ToolProvider;

/** The rules of LANGUAGE.md that a look at the program, its text or what javac makes of it, can check. */
final class LanguageTest {
    private static final Harness H = new Harness();
    private static final String[] FACE = {"variables", "feed", "end", "solve", "place", "basis", "poly",
        "stairs", "stair", "rest", "zeros", "form", "eliminant", "fraction", "real", "multiplicity",
        "rank", "floor", "exact", "apart", "sign", "length", "letter", "status", "digest"};

    public static void main(String[] args) throws Exception {
        Path file = Path.of(System.getProperty("project"), "src/main/java/RealSolver.java");
        String source = Files.readString(file, StandardCharsets.US_ASCII);
        String code = source.replaceAll("(?s)/\\*.*?\\*/", "").replaceAll("//[^\n]*", "");
        H.name("language");
        words(code);
        face(code);
        methods(code);
        reflection();
        String listing = listing();
        if (!listing.isEmpty()) {
            library(listing);
            depth(listing);
        }
        H.end();
    }

    private static int count(String code, String pattern) {
        Matcher m = Pattern.compile(pattern).matcher(code);
        int n = 0;
        while (m.find()) {
            n++;
        }
        return n;
    }

    private static void words(String code) {
        String[] forbidden = {"throw", "throws", "try", "catch", "finally", "synchronized", "assert", "volatile",
            "native", "BigInteger", "BigDecimal", "Thread", "Random", "nanoTime", "currentTimeMillis", "hashCode",
            "Object", "System\\.(?!arraycopy)"};
        for (String word : forbidden) {
            H.due("uses of " + word, count(code, "\\b" + word + "(\\b|(?<=\\.))"), 0);
        }
        H.due("uses of Exact", count(code, "Exact\\("), 0);
        H.due("lambdas and method references", count(code, "->|::"), 0);
        H.due("imports but of these", count(code, "\\bimport\\b"),
                count(code, "import java\\.util\\.(Arrays|ArrayList|List|Iterator);"));
        H.due("package lines", count(code, "\\bpackage\\b"), 0);
        H.due("static fields that are not final",
                count(code, "\\bstatic (?!final)[\\w\\[\\]]+ \\w+( =|;)"), 0);
        H.due("static blocks", count(code, "\\bstatic \\{"), 0);
        H.due("classes, at most twelve", count(code, "\\bclass \\w+") <= 12, true);
        H.due("inner classes that are not static",
                count(code, "\\bclass \\w+") - 1, count(code, "static final class \\w+"));
    }

    private static void face(String code) {
        for (String name : FACE) {
            H.due("methods named " + name, count(code, "(?m)^    +[\\w\\[\\] ]+ " + name + "\\([^)]*\\) \\{"), 1);
            H.due("public int " + name, count(code, "(?m)^    public int " + name + "\\("), 1);
        }
        H.due("public things", count(code, "\\bpublic\\b"), FACE.length + 2);
        H.due("protected things", count(code, "\\bprotected\\b"), 0);
    }

    private static void methods(String code) {
        String[] lines = code.split("\n");
        Pattern head = Pattern.compile("^( ++)(?!return|else|if|for|new)[\\w\\[\\] ]+\\(([^)]*)\\) \\{$");
        for (int i = 0; i < lines.length; i++) {
            Matcher m = head.matcher(lines[i]);
            if (!m.matches() || m.group(1).length() > 8) {
                continue;
            }
            String close = m.group(1) + "}";
            int end = i;
            while (end < lines.length - 1 && !lines[end].equals(close)) {
                end++;
            }
            H.due("method of at most sixty lines: " + lines[i], end - i + 1 <= 60, true);
            H.due("method of at most seven parameters: " + lines[i], m.group(2).split(",").length <= 7, true);
        }
        for (String line : lines) {
            H.due("line of at most 110 letters", line.length() <= 110, true);
        }
    }

    private static void reflection() throws Exception {
        Class<?> face = Class.forName("RealSolver");
        H.due("methods that others see",
                java.util.Arrays.stream(face.getDeclaredMethods())
                        .filter(m -> !java.lang.reflect.Modifier.isPrivate(m.getModifiers())).count(),
                FACE.length);
        for (java.lang.reflect.Field f : face.getDeclaredFields()) {
            H.due("private field " + f.getName(), java.lang.reflect.Modifier.isPrivate(f.getModifiers()), true);
        }
        for (Class<?> inner : face.getDeclaredClasses()) {
            int own = 0;
            for (java.lang.reflect.Field f : inner.getDeclaredFields()) {
                own += java.lang.reflect.Modifier.isStatic(f.getModifiers()) ? 0 : 1;
            }
            H.due("some twenty fields at most in " + inner.getSimpleName(), own <= 20, true);
        }
    }

    /** The compiled class as javap tells it; empty if this machine has no javap. */
    private static String listing() {
        java.util.Optional<ToolProvider> javap = ToolProvider.findFirst("javap");
        if (javap.isEmpty()) {
            System.out.println("no javap here: the library and the depth of calls are not looked at");
            return "";
        }
        File[] files = new File(System.getProperty("java.class.path")).listFiles(
                (folder, name) -> name.matches("RealSolver(\\$\\w+)?\\.class"));
        List<String> line = new ArrayList<>(List.of("-p", "-c"));
        for (File file : files) {
            line.add(file.getPath());
        }
        StringWriter out = new StringWriter();
        javap.get().run(new PrintWriter(out), new PrintWriter(System.out), line.toArray(new String[0]));
        return out.toString();
    }

    /** Rule 4: Arrays' methods over arrays of numbers alone (a row of booleans is none), and so on. */
    private static void library(String listing) {
        String listed = "java/lang/Object\\.\"<init>\":\\(\\)V"
                + "|java/lang/(Integer|Long|Math)\\.(?!\\w*Exact:)\\w+:\\([IJ]*\\)[IJ]"
                + "|java/lang/System\\.arraycopy:.*"
                + "|java/util/Arrays\\.copyOf:\\(\\[([BSIJ])I\\)\\[\\2"
                + "|java/util/Arrays\\.copyOfRange:\\(\\[([BSIJ])II\\)\\[\\3"
                + "|java/util/Arrays\\.fill:\\(\\[([BSIJ])(II)?\\4\\)V";
        Matcher used = Pattern.compile("// (?:Interface)?(?:Method|Field) (java\\S+)").matcher(listing);
        int found = 0;
        while (used.find()) {
            found++;
            H.due("rule 4 lists " + used.group(1), used.group(1).matches(listed), true);
        }
        H.due("uses of the library are found", found > 0, true);
        H.due("rule 3: objects of the library's classes", count(listing, "// class java"), 0);
        H.due("rule 2: lambdas", count(listing, "invokedynamic"), 0);
    }

    /** How deep calls go, the face's own being the first: read off the compiled class. */
    private static void depth(String listing) {
        Map<String, Set<String>> calls = calls(listing);
        H.due("methods are found", calls.size() > FACE.length, true);
        for (String name : FACE) {
            H.due("depth of " + name + " at most 8", depth("RealSolver." + name, calls, 0) <= 8, true);
        }
    }

    private static Map<String, Set<String>> calls(String listing) {
        Pattern type = Pattern.compile("^[\\w ]*class ([\\w$]+).*\\{");
        Pattern method = Pattern.compile("^  [^ ].*?([\\w$]+)\\(.*\\);");
        Pattern call = Pattern.compile("invoke.*// Method (?:([\\w$/]+)\\.)?\"?(\\w+)\"?:");
        Map<String, Set<String>> calls = new HashMap<>();
        String current = "";
        String from = "";
        for (String line : listing.split("\n")) {
            Matcher t = type.matcher(line);
            Matcher m = method.matcher(line);
            Matcher c = call.matcher(line);
            if (t.find()) {
                current = t.group(1);
            } else if (m.find()) {
                from = current + "." + m.group(1);
                calls.putIfAbsent(from, new HashSet<>());
            } else if (c.find()) {
                String to = c.group(1) == null ? current : c.group(1);
                if (to.startsWith("RealSolver")) {
                    calls.get(from).add(to + "." + c.group(2));
                }
            }
        }
        return calls;
    }

    private static int depth(String method, Map<String, Set<String>> calls, int open) {
        if (open > 50) {
            return 1000;
        }
        int deepest = 0;
        for (String to : calls.getOrDefault(method, Set.of())) {
            deepest = Math.max(deepest, depth(to, calls, open + 1));
        }
        return deepest + 1;
    }
}
