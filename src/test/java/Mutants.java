import java.io.ByteArrayOutputStream;
import java.io.OutputStream;
import java.net.URI;
import java.nio.file.Files;
import java.nio.file.Path;
import java.util.ArrayList;
import java.util.Collections;
import java.util.HashMap;
import java.util.List;
import java.util.Map;
import java.util.Set;
import java.util.TreeSet;
import java.util.regex.Matcher;
import java.util.regex.Pattern;
import java.util.stream.IntStream;
import javax.tools.FileObject;
import javax.tools.ForwardingJavaFileManager;
import javax.tools.JavaFileManager;
import javax.tools.JavaFileObject;
import javax.tools.SimpleJavaFileObject;
import javax.tools.StandardJavaFileManager;
import javax.tools.ToolProvider;

/**
 * No test, but one of the tests: it breaks LateGlass.java in one place at a time, and tells which ways to
 * break it no test of EdgeTest notices, and which tests of EdgeTest nothing breaks.
 * java -cp OUT Mutants src/main/java/LateGlass.java OUT
 */
public final class Mutants {
    private static final long PATIENCE = 20_000;
    private static final String[][] SWAPS = {
        {" < ", " <= "}, {" <= ", " < "}, {" > ", " >= "}, {" >= ", " > "}, {" < ", " >= "}, {" > ", " <= "},
        {" == ", " != "}, {" != ", " == "}, {" && ", " || "}, {" || ", " && "}, {" + ", " - "}, {" - ", " + "},
        {" * ", " + "}, {" / ", " * "}, {" % ", " / "}, {" | ", " & "}, {" & ", " | "}, {" ^ ", " | "},
        {" << ", " >> "}, {" >>> ", " << "}, {" |= ", " = "}, {" &= ", " = "}, {" += ", " = "}, {"++", "--"},
        {"--", "++"}, {"true", "false"}, {"false", "true"}, {"!", ""}, {"(!", "("},
    };

    private static final class Mutant {
        final int line;
        final String what;
        final boolean isComment;
        final String source;

        Mutant(String source, int from, int to, String by) {
            this.source = source.substring(0, from) + by + source.substring(to);
            this.line = (int) source.substring(0, from).chars().filter(c -> c == '\n').count() + 1;
            int start = source.lastIndexOf('\n', from) + 1;
            int end = source.indexOf('\n', to);
            this.what = source.substring(start, from).trim() + " [" + source.substring(from, to).trim() + " -> "
                + by.trim() + "] " + source.substring(to, end).trim();
            String text = source.substring(start, end).trim();
            this.isComment = text.startsWith("*") || text.startsWith("/");
        }
    }

    public static void main(String[] args) throws Exception {
        String source = Files.readString(Path.of(args[0]));
        Path tests = Path.of(args[1]);
        List<Mutant> mutants = all(source);
        Set<String> broken = Collections.synchronizedSet(new TreeSet<>());
        List<String> unnoticed = Collections.synchronizedList(new ArrayList<>());
        int[] uncompiled = new int[1];
        IntStream.range(0, mutants.size()).parallel().forEach(i -> {
            Mutant mutant = mutants.get(i);
            Map<String, byte[]> classes = compiled(mutant.source);
            if (classes == null) {
                synchronized (uncompiled) {
                    uncompiled[0]++;
                }
                return;
            }
            List<String> failing = failing(classes, tests);
            broken.addAll(failing);
            if (failing.isEmpty()) {
                unnoticed.add(String.format("%5d: %s", mutant.line, mutant.what));
            }
        });
        Collections.sort(unnoticed);
        unnoticed.forEach(System.out::println);
        for (String name : EdgeTest.all().names()) {
            if (!broken.contains(name)) {
                System.out.println("nothing breaks: " + name);
            }
        }
        System.out.println("Mutants: " + (mutants.size() - uncompiled[0]) + ", unnoticed " + unnoticed.size());
        System.exit(0);
    }

    private static List<Mutant> all(String source) {
        List<Mutant> mutants = new ArrayList<>();
        int begin = source.indexOf("public final class");
        for (String[] swap : SWAPS) {
            for (int at = source.indexOf(swap[0], begin); at >= 0; at = source.indexOf(swap[0], at + 1)) {
                mutants.add(new Mutant(source, at, at + swap[0].length(), swap[1]));
            }
        }
        Matcher numbers = Pattern.compile("(?<![\\w.\"])\\d+(?![\\w.])").matcher(source);
        while (numbers.find()) {
            long number = Long.parseLong(numbers.group());
            mutants.add(new Mutant(source, numbers.start(), numbers.end(), "" + (number + 1)));
            if (number > 0) {
                mutants.add(new Mutant(source, numbers.start(), numbers.end(), "" + (number - 1)));
            }
        }
        Matcher tests = Pattern.compile("(?<=if \\()(.*)(?=\\) \\{\n)").matcher(source);
        while (tests.find()) {
            mutants.add(new Mutant(source, tests.start(), tests.end(), "(" + tests.group() + ") && false"));
            mutants.add(new Mutant(source, tests.start(), tests.end(), "(" + tests.group() + ") || true"));
        }
        String declared = "(?!return|break|continue|import|private|final|[\\w.<>\\[\\]]+ \\w+ = |[\\w\\[\\]]+ \\w+;)";
        String statement = declared + "[\\w.\\[\\] +]+( [-+|&*/]?= |\\(|\\+\\+|--).*;";
        Matcher statements = Pattern.compile("(?m)^ +(" + statement + ")$").matcher(source);
        while (statements.find()) {
            mutants.add(new Mutant(source, statements.start(1), statements.end(1), ""));
        }
        mutants.removeIf(mutant -> mutant.isComment);
        return mutants;
    }

    private static final class Text extends SimpleJavaFileObject {
        private final String text;

        Text(String text) {
            super(URI.create("string:///LateGlass.java"), Kind.SOURCE);
            this.text = text;
        }

        @Override
        public CharSequence getCharContent(boolean ignore) {
            return text;
        }
    }

    private static final class Bytes extends SimpleJavaFileObject {
        private final ByteArrayOutputStream bytes = new ByteArrayOutputStream();

        Bytes(String name) {
            super(URI.create("bytes:///" + name.replace('$', '_') + ".class"), Kind.CLASS);
        }

        @Override
        public OutputStream openOutputStream() {
            return bytes;
        }
    }

    private static final class Kept extends ForwardingJavaFileManager<StandardJavaFileManager> {
        private final Map<String, Bytes> made = new HashMap<>();

        Kept(StandardJavaFileManager manager) {
            super(manager);
        }

        @Override
        public JavaFileObject getJavaFileForOutput(JavaFileManager.Location where, String name,
                JavaFileObject.Kind kind, FileObject sibling) {
            Bytes bytes = new Bytes(name);
            made.put(name, bytes);
            return bytes;
        }
    }

    private static Map<String, byte[]> compiled(String source) {
        var compiler = ToolProvider.getSystemJavaCompiler();
        Kept kept = new Kept(compiler.getStandardFileManager(d -> { }, null, null));
        boolean fine = compiler.getTask(null, kept, d -> { }, List.of("-proc:none"), null, List.of(new Text(source))).call();
        if (!fine) {
            return null;
        }
        Map<String, byte[]> classes = new HashMap<>();
        kept.made.forEach((name, bytes) -> classes.put(name, bytes.bytes.toByteArray()));
        return classes;
    }

    /** Loads the broken class and, beside it, the tests, both anew. */
    private static final class Loader extends ClassLoader {
        private final Map<String, byte[]> classes;
        private final Path tests;

        Loader(Map<String, byte[]> classes, Path tests) {
            super(ClassLoader.getPlatformClassLoader());
            this.classes = classes;
            this.tests = tests;
        }

        @Override
        protected Class<?> findClass(String name) throws ClassNotFoundException {
            try {
                byte[] bytes = classes.containsKey(name) ? classes.get(name)
                    : Files.readAllBytes(tests.resolve(name + ".class"));
                return defineClass(name, bytes, 0, bytes.length);
            } catch (java.io.IOException e) {
                throw new ClassNotFoundException(name);
            }
        }
    }

    @SuppressWarnings({"removal", "deprecation", "unchecked"})
    private static List<String> failing(Map<String, byte[]> classes, Path tests) {
        List<String> names = Collections.synchronizedList(new ArrayList<>());
        Thread thread = new Thread(() -> {
            try {
                Class<?> test = new Loader(classes, tests).loadClass("EdgeTest");
                var method = test.getDeclaredMethod("failing");
                method.setAccessible(true);
                names.addAll((List<String>) method.invoke(null));
            } catch (ReflectiveOperationException e) {
                names.add("thrown");
            }
        });
        thread.setDaemon(true);
        thread.start();
        try {
            thread.join(PATIENCE);
        } catch (InterruptedException e) {
            names.add("interrupted");
        }
        if (thread.isAlive()) {
            names.add("endless");
            thread.stop();
        }
        return List.copyOf(names);
    }
}
