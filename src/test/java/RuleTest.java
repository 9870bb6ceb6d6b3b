import java.io.IOException;
import java.nio.file.Files;
import java.nio.file.Path;
import java.util.List;

/** The class keeps to LANGUAGE.md as far as that can be read off its source; and what does not is noticed. */
public final class RuleTest {
    /** A rule, and what breaks it when it stands in an otherwise bare class. */
    private static final String[][] BROKEN = {
        {"1", "int f() { return 0; }"},
        {"1", "int a = 0;"},
        {"1", "public int wall(int a) { return a; } private int wall(int a, int b) { return a + b; }"},
        {"1", "public static final class A { }"},
        {"2", "private final class A { }"},
        {"2", "private static int f() { class A { } return 0; }"},
        {"2", "private static void f() { Runnable r = () -> { }; }"},
        {"2", "private static void f() { java.util.function.IntUnaryOperator r = Math::abs; }"},
        {"2", "private static abstract class A { } private static void f() { A a = new A() { }; }"},
        {"3", "private double a = 0;"},
        {"3", "private int[][][] a = null;"},
        {"3", "private static final class A { } private A[][] a = null;"},
        {"3", "private Object a = null;"},
        {"3", "private String[] a = null;"},
        {"4", "private static int f(int a) { return Math.addExact(a, 1); }"},
        {"4", "private static String f(int a) { return String.valueOf(a); }"},
        {"4", "private static int f(String a) { return a.indexOf(\"b\"); }"},
        {"4", "private static void f(int[] a) { java.util.Arrays.sort(a); }"},
        {"4", "private static final String A = \"\\u00e9\";"},
        {"4", "private static long f() { return System.nanoTime(); }"},
        {"5", "private static int a = 0;"},
        {"5", "private static final int[] A = new int[3];"},
        {"5", "private static final int[] A = {1}; private static void f() { A[0] = 2; }"},
        {"5", "private static final int[] A = {1}; private static void f() { A[0]++; }"},
        {"5", "private static final int[] A = {1}; private static void f() { A[0] += 2; }"},
        {"5", "private static final int[] A = {1}; private static int[] f() { return A; }"},
        {"5", "static { }"},
        {"6", "private static void f() { throw new IllegalStateException(); }"},
        {"6", "private static void f() { try { } finally { } }"},
        {"6", "private void f() { synchronized (this) { } }"},
        {"6", "private static void f(int a) { assert a == 0; }"},
        {"6", "private static boolean f(String a, String b) { return a == b; }"},
        {"6", "private static class A { } private static final class B extends A { } private static B f(A a) { return (B) a; }"},
        {"6", "private static final class A { public int hashCode() { return 1; } }"},
        {"6", "private static void f() throws Exception { }"},
        {"7", "private static int f(int a, int b) { return a / b; }"},
        {"7", "private static int f(int a, int b) { return a % (b - 1); }"},
        {"7", "private static int f(int a, int b) { a /= b; return a; }"},
        {"8", "private static int f(int a) { return a > 0 ? f(a - 1) : 0; }"},
        {"8", "private static int f(int a) { return a > 0 ? g(a - 1) : 0; } private static int g(int a) { return f(a); }"},
        {"9", "private static void f() { while (true) { } }"},
        {"9", "private static void f() { for (;;) { } }"},
        {"9", "private static void f() { do { } while (true); }"},
        {"10", "private static String f(String a) { return a + 1; }"},
        {"10", "private static String f(String a) { a += 1; return a; }"},
        {"11", "private static int f(int a, int b, int c, int d, int e, int g, int h, int i) { return a; }"},
        {"11", "private static void f() { " + "\n".repeat(61) + " }"},
        {"11", many(12, "private static final class A%d { }")},
        {"11", many(21, "private int a%d = 0;")},
        {"11", many(8, "private static void f%d() { f%d(); }") + "private static void f8() { }"},
        {"12", "private static void f() { for (int i = 0; i < 3; i++) { int[] a = new int[i]; } }"},
        {"12", "private static final class A { } private static void f() { for (int i = 0; i < 3; i++) { A a = new A(); } }"},
    };
    /** What stands at the edge of a rule, within it. */
    private static final String[] KEPT = {
        "",
        "private static int f(int a, int depth) { return depth < 8 ? f(a, depth + 1) : a; }",
        "private static final int[] A = {1, -2}; private static int f(int i) { return i == 0 ? A[0] : A.length; }",
        "private static int f(int a, int b, int c, int d, int e, int g, int h) { return a / 2 % 3; }",
        "private static void f() { " + "\n".repeat(59) + " }",
        "private static final class A { int[][] a = null; A[] b = null; A c = null; }",
        many(11, "private static final class A%d { }"),
        many(20, "private int a%d = 0;"),
        many(7, "private static void f%d() { f%d(); }") + "private static void f7() { }",
    };
    private static int wrong = 0;

    private static String many(int times, String text) {
        StringBuilder all = new StringBuilder();
        for (int i = 0; i < times; i++) {
            all.append(text.replaceFirst("%d", "" + i).replace("%d", "" + (i + 1))).append('\n');
        }
        return all.toString();
    }

    private static String with(String members) {
        return "public final class LateGlass { public static final int NONE = -1; public LateGlass() { } " + members + " }";
    }

    private static void complain(String what) {
        wrong++;
        System.out.println("RuleTest: " + what);
    }

    public static void main(String[] args) throws IOException {
        Rules.brokenBy(Files.readString(Path.of(args[0]))).forEach(RuleTest::complain);
        for (String[] sample : BROKEN) {
            List<String> said = Rules.brokenBy(with(sample[1]));
            if (said.stream().noneMatch(s -> s.startsWith("rule " + sample[0] + ":"))) {
                complain("rule " + sample[0] + " does not notice: " + sample[1] + " but " + said);
            }
        }
        for (String sample : KEPT) {
            Rules.brokenBy(with(sample)).forEach(said -> complain(said + ", which is none: " + sample));
        }
        System.out.println("RuleTest: " + BROKEN.length + " ways to break a rule, " + wrong + " wrong");
        if (wrong != 0) {
            System.exit(1);
        }
    }
}
