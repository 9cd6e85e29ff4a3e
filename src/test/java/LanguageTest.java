import java.io.IOException;
import java.lang.reflect.Method;
import java.lang.reflect.Modifier;
import java.nio.file.Files;
import java.nio.file.Path;
import java.util.List;
import java.util.Set;
import java.util.TreeSet;

/** The program keeps to LANGUAGE.md, and LanguageRules would see it if it did not: rule by rule, in what is ruled out. */
public final class LanguageTest {
    private static final Set<String> FACE = new TreeSet<>();

    public static void main(String[] args) throws IOException {
        for (Method method : Thermographica.class.getMethods()) {
            if (method.getDeclaringClass() == Thermographica.class && Modifier.isPublic(method.getModifiers())) {
                FACE.add(method.getName());
            }
        }
        Path program = Path.of("src/main/java/Thermographica.java");
        Check.same("the program", String.join("; ", LanguageRules.faultsOf(Files.readString(program), FACE)), "");
        try (var beside = Files.list(program.getParent())) {
            Check.same("files of the program", beside.count(), 1);
        }
        theFace();
        classesInside();
        types();
        library();
        staticFields();
        exceptions();
        divisors();
        recursion();
        loops();
        texts();
        sizes();
        constructors();
        outside();
        whatIsFine();
        Check.end("LanguageTest");
    }

    private static List<String> faults(String program) {
        try {
            return LanguageRules.faultsOf(program, FACE);
        } catch (IOException e) {
            throw new AssertionError(e);
        }
    }

    private static String inClass(String members) {
        return "public final class Thermographica {\n public Thermographica() { }\n" + members + "\n}\n";
    }

    private static void ruledOut(int rule, String members) {
        ruledOutAll(rule, inClass(members));
    }

    private static void ruledOutAll(int rule, String program) {
        List<String> faults = faults(program);
        boolean isSeen = false;
        for (String fault : faults) {
            isSeen |= fault.startsWith(rule + ": ");
        }
        Check.same("rule " + rule + " sees " + program + " and says " + faults, isSeen, true);
    }

    private static void fine(String members) {
        Check.same("nothing is wrong with " + members, String.join("; ", faults(inClass(members))), "");
    }

    /** Rule 1. */
    private static void theFace() {
        ruledOut(1, "public int another() { return 0; }");
        ruledOut(1, "int another() { return 0; }");
        ruledOut(1, "protected void another() { }");
        ruledOut(1, "public final int width = 3;");
        ruledOut(1, "static final int WIDTH = 3;");
        ruledOut(1, "public Thermographica(int games) { }");
        ruledOut(1, "private int sum(int game) { return game; }");
        ruledOut(1, "private static final class Play { private int move(int n) { return n; } }");
        ruledOut(1, "public static final class Play { }");
        ruledOut(1, "private final class Play { }");
        ruledOutAll(1, "public class Thermographica { public Thermographica() { } }");
        ruledOutAll(1, inClass("") + "final class Another { }");
        ruledOutAll(1, "package games; " + inClass(""));
    }

    /** Rule 2. */
    private static void classesInside() {
        ruledOut(2, "private interface Step { int of(int n); }\n private Step one() { return n -> n + 1; }");
        ruledOut(2, "private interface Step { int of(int n); }\n private Step one() { return Math::abs; }");
        ruledOut(2, "private int one(int n) { class Step { int of() { return n; } } return new Step().of(); }");
        ruledOut(2, "private enum Kind { COLD, HOT; private double heat; }");
        ruledOut(2, "private enum Kind { COLD, HOT; private int[] parts; }");
    }

    /** Rule 3. */
    private static void types() {
        ruledOut(3, "private String[] texts;");
        ruledOut(3, "private int[][][] rows;");
        ruledOut(3, "private static final class Game { }\n private Game[][] rows;");
        ruledOut(3, "private Object anything;");
        ruledOut(3, "private java.util.List<String> texts;");
        ruledOut(3, "private double part(double x) { return x % 2.0; }");
        ruledOut(3, "private double part(double x) { return Math.max(x, 0.0); }");
        ruledOut(3, "private Long boxed(long n) { return n; }");
    }

    /** Rule 4. */
    private static void library() {
        ruledOut(4, "private double root(int n) { return Math.sqrt(n); }");
        ruledOut(4, "private int more(int n) { return Math.addExact(n, 1); }");
        ruledOut(4, "private int read(String text) { return Integer.parseInt(text); }");
        ruledOut(4, "private String trimmed(String text) { return text.trim(); }");
        ruledOut(4, "private String text(int n) { return String.valueOf(n); }");
        ruledOut(4, "private String text() { return \"\u00e9\"; }");
        ruledOut(4, "private void name() { this.getClass(); }");
        ruledOut(4, "private int make2() { return new java.util.HashMap<Integer, Integer>().size(); }");
        ruledOut(4, "private StringBuilder twice(StringBuilder text) { return text.append(1.5).insert(0, 'a'); }");
        ruledOutAll(4, "import java.util.HashMap; " + inClass(""));
        ruledOutAll(4, "import static java.lang.Math.max; " + inClass(""));
    }

    /** Rule 5. */
    private static void staticFields() {
        ruledOut(5, "private static int count;");
        ruledOut(5, "private static final StringBuilder TEXT = new StringBuilder();");
        ruledOut(5, "private static final int[] ROW = new int[3];");
        ruledOut(5, "private static final int[] ROW = {1, 2};\n private void change() { ROW[0] = 2; }");
        ruledOut(5, "private static final int[] ROW = {1, 2};\n private void change() { ROW[0]++; }");
        ruledOut(5, "private static final int[] ROW = {1, 2};\n private void change() { ROW[0] += 2; }");
        ruledOut(5, "private static final int WIDTH; static { WIDTH = 3; }");
        ruledOut(5, "private static final double[] PARTS = {0.5};");
    }

    /** Rule 6. */
    private static void exceptions() {
        ruledOut(6, "private void fail() { throw new NullPointerException(); }");
        ruledOut(6, "private void fail(RuntimeException e) { throw e; }");
        ruledOut(6, "private void fail(String why) { throw new IllegalStateException(why); }");
        ruledOut(6, "private static final class Games { Games(int n) { throw new RuntimeException(\"no\"); } }");
        ruledOut(6, "private static final class Wrong extends RuntimeException { }");
        ruledOut(6, "private void fail() { }\n private void call() { try { fail(); } catch (NullPointerException e) { fail(); } }");
        ruledOut(6, "private void fail() { }\n private void call() { try { fail(); } catch (Exception e) { fail(); } }");
        ruledOut(6, "private void fail() { }\n private void call() { try { fail(); } finally { fail(); } }");
        ruledOut(6, "private void fail() { }\n private String call() { try { fail(); } catch (RuntimeException e) { return e.getMessage(); } return \"\"; }");
        ruledOut(6, "private void fail() { }\n private void call() { try { fail(); } catch (RuntimeException e) { throw new RuntimeException(); } }");
        ruledOut(6, "private synchronized void wait2() { }");
        ruledOut(6, "private void wait2() { synchronized (this) { } }");
        ruledOut(6, "private void sure(int n) { assert n > 0; }");
        ruledOut(6, "private boolean same(String one, String other) { return one == other; }");
        ruledOut(6, "private boolean same(Integer one, Integer other) { return one != other; }");
        ruledOut(6, "private static final class Game { public String toString() { return \"\"; } }");
        ruledOut(6, "private static final class Game { public boolean equals(Object other) { return true; } }");
    }

    /** Rule 7, as far as it shows: what divides is a constant. */
    private static void divisors() {
        ruledOut(7, "private int part(int n, int by) { return n / by; }");
        ruledOut(7, "private int part(int n, int by) { return n % by; }");
        ruledOut(7, "private int part(int n, int by) { n /= by; return n; }");
        ruledOut(7, "private int part(int n) { return n / 0; }");
        ruledOut(7, "private long part(long n, long by) { n %= by; return n; }");
    }

    /** Rule 8. */
    private static void recursion() {
        ruledOut(8, "private static final class Tree { int deep(int n) { return n > 0 ? deep(n - 1) : 0; } }");
        ruledOut(8, "private int deep(int n) { return n > 0 ? deep(n - 1) : 0; }");
        ruledOut(8, "private static final class Tree { private int odd(int n) { return even(n); } int even(int n) { return n > 0 ? odd(n - 1) : 0; } }");
    }

    /** Rule 9. */
    private static void loops() {
        ruledOut(9, "private void turn() { for (;;) { } }");
        ruledOut(9, "private void turn() { for (int i = 0; true; i++) { if (i > 9) { break; } } }");
        ruledOut(9, "private void turn() { while (true) { } }");
        ruledOut(9, "private void turn(boolean isOn) { while (isOn) { } }");
        ruledOut(9, "private void turn(boolean isOn) { do { } while (!isOn); }");
    }

    /** Rule 10. */
    private static void texts() {
        ruledOut(10, "private String joined(String text, int n) { return text + n; }");
        ruledOut(10, "private String joined(int n) { return n + \" games\"; }");
        ruledOut(10, "private String joined(String text) { text += 'a'; return text; }");
    }

    /** Rule 11. */
    private static void sizes() {
        ruledOut(11, "private int all(int a, int b, int c, int d, int e, int f, int g, int h) { return a; }");
        StringBuilder lines = new StringBuilder("private int count(int n) {\n");
        for (int i = 0; i < 58; i++) {
            lines.append("n++;\n");
        }
        fine(lines + "return n; }");
        ruledOut(11, lines + "n++;\nreturn n; }");
        StringBuilder fields = new StringBuilder();
        StringBuilder classes = new StringBuilder();
        for (int i = 0; i < 20; i++) {
            fields.append("private int f").append(i).append(";\n");
            classes.append(i < 11 ? "private static final class C" + i + " { }\n" : "");
        }
        fine(fields + "private static final int MOST = 3;");
        ruledOut(11, fields + "private int last;");
        fine(classes.toString());
        ruledOut(11, classes + "private static final class Last { }");
        StringBuilder chain = new StringBuilder("public int make() { return c2(); }\n");
        for (int i = 2; i < 8; i++) {
            chain.append("private int c").append(i).append("() { return c").append(i + 1).append("(); }\n");
        }
        fine(chain + "private int c8() { return 1; }");
        ruledOut(11, chain + "private int c8() { return c9(); } private int c9() { return 1; }");
        fine(chain + "private int c8() { return c7(); }");
        ruledOut(11, chain + "private int c8() { return c9(); } private int c9() { return c8(); }");
    }

    /** Rule 12. */
    private static void constructors() {
        ruledOut(12, "private static class Game { Game() { begin2(); } void begin2() { } }");
        ruledOut(12, "private static final class Games { Game first; Games() { first = new Game(this); } }\n"
                + "private static final class Game { final Games all; Game(Games all) { this.all = all; } }");
    }

    /** Rule 13: what is outside is out of reach by rule 4, too. */
    private static void outside() {
        ruledOut(13, "private void say() { System.out.println(1); }");
        ruledOut(4, "private long now() { return System.nanoTime(); }");
        ruledOut(4, "private long now() { return Thread.currentThread().getId(); }");
        ruledOut(4, "private int any() { return new java.util.Random().nextInt(); }");
        ruledOut(4, "private String home() { return System.getenv(\"HOME\"); }");
    }

    /** What the rules allow is not held against a program. */
    private static void whatIsFine() {
        fine("private enum Kind { COLD { int of() { return 0; } }, HOT { int of() { return 1; } }; abstract int of(); }\n"
                + "private static final Kind[] KINDS = Kind.values();");
        fine("private enum Kind { COLD(1), HOT(2); private final int heat; Kind(int heat) { this.heat = heat; } int of() { return heat; } }");
        fine("private interface Step { int of(int n); }\n private record Plus(int by) implements Step { public int of(int n) { return n + by; } }");
        fine("private final int[][] rows = new int[3][4];\n private final double[] parts = new double[2];");
        fine("private static final int[] ROW = {1, 2};\n private int first(int i) { return i >= 0 && i < ROW.length ? ROW[i] : 0; }");
        fine("private final java.util.ArrayList<Integer> all = new java.util.ArrayList<>();\n private void more(int n) { all.add(n); }");
        fine("private String text(int n) { StringBuilder text = new StringBuilder(); text.append(n); return text.toString(); }");
        fine("private static int deep(int n) { return n > 0 ? deep(n - 1) : 0; }");
        fine("private int odd(int n) { return even(n); }\n private int even(int n) { return n > 0 ? odd(n - 1) : 0; }");
        fine("private void fail() { throw new IllegalStateException(\"no\"); }\n"
                + "private int call() { try { fail(); } catch (IllegalStateException e) { return 1; } return 0; }");
        fine("private static final class Link { Link next; }\n"
                + "private int count(Link first) { int n = 0; for (Link l = first; l != null; l = l.next) { n++; } return n; }");
        fine("private double half(int n) { return (double) n / 2.0; }\n private int part(int n) { return n / 3 % 2; }");
    }
}
