import java.io.IOException;
import java.nio.charset.StandardCharsets;
import java.nio.file.Files;
import java.nio.file.Path;
import java.util.List;

/**
 * The class keeps to LANGUAGE.md, as far as {@link Rules} sees it, and Rules sees what it should. The source's
 * path is the one argument.
 */
public final class RulesTest {
    /** A rule, and what breaks it, put into a class that breaks none. */
    private static final String[][] BREAKS = {
        {"1", "public int open() { return 0; } private int open(int a) { return a; }"},
        {"1", "int shown;"},
        {"1", "int shown() { return 0; }"},
        {"1", "public static class Open { }"},
        {"2", "class Inner { }"},
        {"2", "interface Way { int go(); } public int a() { Way w = () -> 1; return w.go(); }"},
        {"2", "interface Way { int go(); } static int one() { return 1; } public int a() { Way w = X::one; return 0; }"},
        {"2", "interface Way { int go(); } public int a() { Way w = new Way() { public int go() { return 1; } };"
            + " return w.go(); }"},
        {"2", "public int a() { class Local { } return 0; }"},
        {"3", "public int a() { Object o = null; return 0; }"},
        {"3", "private final int[][][] deep = new int[2][2][2];"},
        {"3", "private static class Own { } private final Own[][] deep = new Own[2][2];"},
        {"4", "public double a() { return Math.sqrt(2); }"},
        {"4", "public long a() { return System.nanoTime(); }"},
        {"4", "public int a() { return Math.addExact(1, 2); }"},
        {"4", "public int a() { java.util.Random r = new java.util.Random(); return 0; }"},
        {"5", "private static int state = 0;"},
        {"5", "private static final int[] ROW = new int[4];"},
        {"5", "private static final StringBuilder TEXT = new StringBuilder();"},
        {"5", "static { }"},
        {"6", "public int a() { throw new IllegalArgumentException(); }"},
        {"6", "public int a() { try { return 1; } finally { } }"},
        {"6", "public int a() { synchronized (this) { return 1; } }"},
        {"6", "public int a(int b) { assert b == 1; return 1; }"},
        {"6", "public String toString() { return \"\"; }"},
        {"6", "private static class A { } private static class B extends A { } public int a() { A o = new A();"
            + " B b = (B) o; return 0; }"},
        {"6", "public boolean a(String b, String c) { return b == c; }"},
        {"7", "public int a(int b) { return 1 / b; }"},
        {"7", "public int a(int b) { int[] row = new int[b]; return 0; }"},
        {"8", "private static int a(int b) { return a(b - 1); }"},
        {"8", "private static int a(int b) { return c(b); } private static int c(int b) { return a(b); }"},
        {"8", "private static class A { int go(A o) { return 0; } } private static class B extends A {"
            + " int go(A o) { return o.go(o); } }"},
        {"9", "public int a() { for (;;) { } }"},
        {"9", "public int a() { while (true) { } }"},
        {"9", "public int a() { boolean b = true; while (b) { } return 0; }"},
        {"9", "public int a() { boolean b = true; do { } while (b); return 0; }"},
        {"9", "public int a() { for (int i = 0; i < 9; i++) { i--; } return 0; }"},
        {"9", "public int a() { for (int i = 0; i < 9; i += 0) { } return 0; }"},
        {"9", "public int a(int b) { for (int i = 0; b < 9; i++) { } return 0; }"},
        {"10", "public String a(int b) { return \"b\" + b; }"},
        {"11", "public int a(int b, int c, int d, int e, int f, int g, int h, int i) { return 0; }"},
        {"11", "public int a() {" + "\n".repeat(60) + "return 0; }"},
        {"11", "private static class C {} ".replace("C {", "C%d {").repeat(12)},
        {"11", "private int f%d; ".repeat(21)},
        {"11", "private static int m%d(int b) { return m%d(b); } ".repeat(8) + "private static int m8(int b) { return b; }"},
        {"12", "private static class A { } public int a() { for (int i = 0; i < 9; i++) { A o = new A(); } return 0; }"},
        {"12", "public int a() { for (int i = 0; i < 9; i++) { int[] o = new int[1]; } return 0; }"},
        {"12", "private static class A { A() { go(); } void go() { } }"},
    };

    public static void main(String[] args) throws IOException {
        Due due = new Due("the rules");
        Path path = Path.of(args.length > 0 ? args[0] : "src/main/java/EachEye.java");
        List<String> broken = Rules.broken("EachEye", Files.readString(path, StandardCharsets.UTF_8));
        due.same("what the class breaks", broken, List.of());
        due.same("what a class without anything breaks", Rules.broken("X", around("")), List.of());
        for (String[] breaks : BREAKS) {
            String source = around(numbered(breaks[1]));
            due.yes("rule " + breaks[0] + " is seen to be broken by " + source,
                    Rules.broken("X", source).stream().anyMatch(finding -> finding.startsWith(breaks[0] + ":")));
        }
        due.end();
    }

    private static String around(String members) {
        return "public final class X {\n    " + members + "\n}\n";
    }

    /** Each place for a number gets the next one; in a method that calls the next, the second is that one's. */
    private static String numbered(String members) {
        StringBuilder text = new StringBuilder();
        int number = 0;
        int from = 0;
        for (int at = members.indexOf("%d"); at >= 0; at = members.indexOf("%d", from)) {
            boolean isCall = members.startsWith("return m", at - 8);
            text.append(members, from, at).append(isCall ? number : number++);
            from = at + 2;
        }
        return text.append(members.substring(from)).toString();
    }
}
