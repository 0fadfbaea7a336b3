import java.io.IOException;
import java.nio.file.Files;
import java.nio.file.Path;
import java.util.List;

/**
 * LANGUAGE.md, as far as Language can look it up: the program has no breach, and programs that have
 * one are found out. Run from the project's root.
 */
public final class LanguageTest {
    private static final Check CHECK = new Check("LanguageTest");
    private static final Path SOURCE = Path.of("src/main/java/EvenClock.java");

    public static void main(String[] args) throws IOException {
        for (String breach : Language.breaches(Files.readString(SOURCE))) {
            CHECK.that(breach, false);
        }
        CHECK.that("a class of nothing", breaches("").isEmpty());
        facesThatBreak();
        typesThatBreak();
        exceptionsThatBreak();
        callsThatBreak();
        CHECK.end();
    }

    private static List<String> breaches(String members) throws IOException {
        return Language.breaches("public final class EvenClock {\n" + members + "\n}\n");
    }

    private static void breaks(int rule, String members) throws IOException {
        found(rule, members, breaches(members));
    }

    private static void found(int rule, String program, List<String> breaches) {
        boolean told = breaches.stream().anyMatch(breach -> breach.startsWith("rule " + rule));
        CHECK.that("rule " + rule + " is broken by " + program + ", found are " + breaches, told);
    }

    private static void facesThatBreak() throws IOException {
        String[] programs = {
            "package a; public final class EvenClock { }",
            "public class EvenClock { }",
            "public final class EvenClock { } class Other { }",
        };
        for (String program : programs) {
            found(1, program, Language.breaches(program));
        }
        breaks(1, "int seen;");
        breaks(1, "void seen() { }");
        breaks(1, "public static class Seen { }");
        breaks(1, "public void best() { } private static class A { void best() { } }");
        breaks(2, "private class A { }");
        breaks(2, "private void a() { class B { } }");
        breaks(2, "private static final class A { Runnable b = () -> { }; }");
        breaks(2, "private static final class A { Runnable b = A::c; static void c() { } }");
        breaks(2, "private static class A { } private final A a = new A() { };");
    }

    private static void typesThatBreak() throws IOException {
        breaks(3, "private double a;");
        breaks(3, "private void a(float b) { }");
        breaks(3, "private Object a() { return null; }");
        breaks(3, "private final int[][][] a = new int[1][1][1];");
        breaks(3, "private static class A { } private final A[][] a = new A[1][1];");
        breaks(3, "private void a() { java.util.List<Integer> b = null; }");
        breaks(3, "private int a() { return (int) Math.max(1.0, 2.0); }");
        breaks(4, "private long a() { return System.nanoTime(); }");
        breaks(4, "private int a() { return Math.addExact(1, 2); }");
        breaks(4, "private final int a = new java.util.Random().nextInt();");
        found(4, "an import", Language.breaches(
                "import java.util.Random; public final class EvenClock { }"));
        breaks(5, "private static int a = 1;");
        breaks(5, "private static final int A = Math.abs(1);");
        breaks(5, "private static final int[] A = new int[2];");
        breaks(5, "static { }");
    }

    private static void exceptionsThatBreak() throws IOException {
        breaks(6, "public EvenClock() { throw new IllegalStateException(); }");
        breaks(6, "public void a() { throw new Error(); }");
        breaks(6, "public void a(int b) { throw new IllegalStateException(\"\" + b); }");
        breaks(6, "public void a() { try { b(); } finally { b(); } } private void b() { }");
        breaks(6, "public void a() { assert true; }");
        breaks(6, "public void a() { synchronized (this) { } }");
        breaks(6, "public void a() { throw new IllegalStateException(); }");
        breaks(6, "public void a() { b(); } private void b() { throw new RuntimeException(); }");
        breaks(6, "public void a() throws IllegalStateException { }");
        breaks(7, "private int a(int b) { return 1 / b; }");
        breaks(7, "private int a(int b) { return 1 % b; }");
        breaks(7, "private int a(int b) { b /= b; return b; }");
        breaks(7, "private int a() { return 1 / 0; }");
    }

    private static void callsThatBreak() throws IOException {
        breaks(8, "private void a() { a(); }");
        breaks(8, "private static void a() { b(); } private static void b() { a(); }");
        breaks(9, "private void a() { for (;;) { } }");
        breaks(9, "private void a() { while (true) { } }");
        breaks(9, "private void a(boolean b) { do { } while (b); }");
        breaks(10, "private void a(int b) { c(\"\" + b); } private void c(String d) { }");
        breaks(11, "private void a(int b, int c, int d, int e, int f, int g, int h, int i) { }");
        breaks(11, "private void a() {" + "\n;".repeat(60) + "\n}");
        StringBuilder chain = new StringBuilder("private void a9() { }");
        StringBuilder classes = new StringBuilder();
        StringBuilder fields = new StringBuilder();
        for (int k = 1; k <= 8; k++) {
            chain.append("private void a" + k + "() { a" + (k + 1) + "(); }");
        }
        for (int k = 0; k < 21; k++) {
            fields.append("private int a" + k + ";");
            classes.append("private static class A" + k + " { }");
        }
        breaks(11, chain.toString());
        breaks(11, classes.toString());
        breaks(11, fields.toString());
        breaks(12, "private int a() { return new int[3].length; }");
        breaks(12, "private static class A { } private A a() { return new A(); }");
        breaks(12, "private void a(Iterable<EvenClock> b) { for (EvenClock c : b) { } }");
    }
}
