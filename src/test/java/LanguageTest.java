import java.io.IOException;
import java.net.URI;
import java.nio.charset.StandardCharsets;
import java.nio.file.Files;
import java.nio.file.Path;
import java.util.Set;
import javax.tools.JavaFileObject;
import javax.tools.SimpleJavaFileObject;

/** The class keeps to the rules of ../shared/LANGUAGE.md; and what breaks one of them is found. */
public final class LanguageTest {
    private static final Checks CHECKS = new Checks();

    /** A rule's number and members of a class that break it. */
    private static final String[][] BREAKING = {
        {"2", "void f() { Runnable r = () -> { }; }"},
        {"2", "void f() { Runnable r = this::f; }"},
        {"2", "void f() { class Inside { } }"},
        {"3", "double f(double x) { return x % 2.0; }"},
        {"3", "float f(float x) { return x % 2; }"},
        {"3", "double f(double x) { x %= 2.0; return x; }"},
        {"3", "Object f;"},
        {"3", "int[][][] f;"},
        {"3", "String[][] f;"},
        {"3", "Double f;"},
        {"4", "int f(float x) { return Float.floatToIntBits(x); }"},
        {"4", "double f(long x) { return Double.longBitsToDouble(x); }"},
        {"4", "double f(double x) { return Math.abs(x); }"},
        {"4", "int f(int x) { return Math.addExact(x, 1); }"},
        {"4", "long f() { return System.nanoTime(); }"},
        {"4", "int f(String s) { return s.hashCode(); }"},
        {"4", "void f() { new java.util.Random(); }"},
        {"5", "private static int f = 1;"},
        {"5", "private static final double F = 1.0;"},
        {"5", "static { }"},
        {"6", "void f() { throw new NullPointerException(); }"},
        {"6", "void f(RuntimeException x) { throw x; }"},
        {"6", "void f() { try { f(); } catch (ArrayIndexOutOfBoundsException x) { } }"},
        {"6", "void f() { try { f(); } catch (ClassCastException | ArithmeticException x) { } }"},
        {"6", "void f() { try { f(); } finally { } }"},
        {"6", "void f() { synchronized (this) { } }"},
        {"6", "synchronized void f() { }"},
        {"6", "LoopMixer(int x) { throw new IllegalArgumentException(); }"},
        {"6", "void f(int x) { assert x > 0; }"},
        {"9", "void f() { while (true) { } }"},
        {"9", "void f() { for (;;) { } }"},
        {"10", "String f(String s) { return s + 1; }"},
        {"11", "void f(int a, int b, int c, int d, int e, int f, int g, int h) { }"},
        {"11", "void f() {\n" + "f(1);\n".repeat(59) + "} void f(int x) { }"},
        {"11", "int a, b, c, d, e, f, g, h, i, j, k, l, m, n, o, p, q, r, s, t, u;"},
        {"11", classes(12)},
        {"11", chain(9)},
    };

    /** Members that break none. */
    private static final String[] KEEPING = {
        "int f(int x) { return x % 2 + Math.floorMod(x, 3) + Integer.bitCount(x); }",
        "float f(double x) { return (float) (x * 2.0 / 3.0 - -x + 1.0f); }",
        "void f() { throw new IllegalStateException(\"no\"); } void g() { try { f(); } catch (RuntimeException x) { } }",
        "private static final int[] F = {1, 2}; double[][] f; int[] g = F.clone();",
        "void f(int[] x) { for (int i : x) { } System.arraycopy(x, 0, x, 0, 0); java.util.Arrays.fill(x, 1); }",
        "String f() { StringBuilder s = new StringBuilder(); s.append('a').append(1); return s.toString(); }",
        "interface Part { int size(); } enum Kind { ONE, TWO } record Pair(int a, int b) { }"
            + "private static final Kind[] KINDS = Kind.values(); int f(Part p, Pair q) { return p.size() + q.a(); }",
        "void f(int a, int b, int c, int d, int e, int f, int g) { }",
        "private static int f(int x) { return x < 1 || x > 40 ? 0 : f(x - 1); }",
        classes(11), chain(8),
    };

    public static void main(String[] args) throws IOException {
        theClassKeepsToTheRules();
        for (String[] breaking : BREAKING) {
            Set<String> broken = LanguageRules.brokenBy(mixerOf(breaking[1]));
            boolean found = broken.stream().anyMatch(what -> what.startsWith(breaking[0] + ":"));
            CHECKS.holds("rule " + breaking[0] + " is broken by " + breaking[1] + " (found: " + broken + ")", found);
        }
        for (String keeping : KEEPING) {
            Set<String> broken = LanguageRules.brokenBy(mixerOf(keeping));
            CHECKS.holds("no rule is broken by " + keeping + " (found: " + broken + ")", broken.isEmpty());
        }
        CHECKS.end();
    }

    private static void theClassKeepsToTheRules() throws IOException {
        byte[] bytes = Files.readAllBytes(Path.of("src/main/java/LoopMixer.java"));
        boolean plain = true;
        for (byte sign : bytes) {
            plain &= sign > 0;
        }
        CHECKS.holds("the signs of the source are 1 to 127", plain);
        for (String what : LanguageRules.brokenBy(sourceOf(new String(bytes, StandardCharsets.US_ASCII)))) {
            CHECKS.holds("LANGUAGE.md, rule " + what, false);
        }
    }

    private static JavaFileObject mixerOf(String members) {
        return sourceOf("public final class LoopMixer { " + members + " }");
    }

    private static JavaFileObject sourceOf(String text) {
        return new SimpleJavaFileObject(URI.create("string:///LoopMixer.java"), JavaFileObject.Kind.SOURCE) {
            @Override
            public CharSequence getCharContent(boolean ignoreEncodingErrors) {
                return text;
            }
        };
    }

    private static String classes(int n) {
        StringBuilder text = new StringBuilder();
        for (int i = 0; i < n; i++) {
            text.append("static class A").append(i).append(" { } ");
        }
        return text.toString();
    }

    /** Methods that call the next one each, n calls deep. */
    private static String chain(int n) {
        StringBuilder text = new StringBuilder();
        for (int i = 1; i < n; i++) {
            text.append("void f").append(i).append("() { f").append(i + 1).append("(); } ");
        }
        return text.append("void f").append(n).append("() { }").toString();
    }
}
