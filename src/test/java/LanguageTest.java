import java.io.IOException;
import java.nio.file.Files;
import java.nio.file.Path;
import java.util.Set;
import java.util.TreeSet;
import java.util.regex.Matcher;
import java.util.regex.Pattern;

/** Looks for what LANGUAGE.md rules out, as far as it shows in the text of the program. */
public final class LanguageTest {
    private static final String[] RULED_OUT = {
        "String\\s*\\[\\s*\\]", "(?m)^(?!.*\\b(case|default)\\b).*->", "::", "\\bfinally\\b", "\\bsynchronized\\b", "\\bassert\\b",
        "\\bSystem\\.(?!arraycopy\\()", "\\bThread\\b", "\\bRandom\\b", "\\bClass\\b",
        "\\bjava\\.(?!util\\.(NoSuchElementException|ArrayList|List|Arrays|Iterator);)", "Exact\\s*\\(", "\\bhashCode\\b",
        "\\bgetMessage\\b", "\\bextends \\w*Exception\\b", "\"\\s*\\+", "\\+\\s*\"", "\\bMath\\.(sqrt|pow|random|floor|ceil|round|rint)\\(",
        "\\bprotected\\b", "\\btry\\s*\\(", "\\[\\]\\s*\\[\\]\\s*\\[\\]",
    };
    private static final String[] THROWN = {"ArithmeticException", "IllegalArgumentException", "IllegalStateException",
        "IndexOutOfBoundsException", "NoSuchElementException", "UnsupportedOperationException", "RuntimeException"};
    private static final int LONGEST_METHOD = 60;

    public static void main(String[] args) throws IOException {
        String text = Files.readString(Path.of("src/main/java/Thermographica.java"));
        String code = text.replaceAll("(?s)/\\*.*?\\*/", "").replaceAll("//[^\n]*", "");
        for (String pattern : RULED_OUT) {
            Check.same("uses of " + pattern, count(code, pattern), 0);
        }
        Set<String> thrown = new TreeSet<>();
        Matcher throwing = Pattern.compile("throw new (\\w+)").matcher(code);
        while (throwing.find()) {
            thrown.add(throwing.group(1));
        }
        thrown.removeAll(Set.of(THROWN));
        Check.same("other exceptions thrown", String.join(" ", thrown), "");
        Check.same("throws that make no exception", count(code, "\\bthrow (?!new )"), 0);
        checkLengths(text);
        Check.end("LanguageTest");
    }

    private static int count(String code, String pattern) {
        int count = 0;
        Matcher found = Pattern.compile(pattern).matcher(code);
        while (found.find()) {
            count++;
        }
        return count;
    }

    /** A method ends at the first brace that stands as far in as its own line does. */
    private static void checkLengths(String text) {
        String[] lines = text.split("\n");
        for (int i = 0; i < lines.length; i++) {
            if (lines[i].matches(" +[^=;]*\\)( throws [^{]*)? \\{") && !lines[i].matches(" *(if|for|while|switch|\\}).*")) {
                String end = lines[i].replaceAll("\\S.*", "") + "}";
                int last = i;
                while (last < lines.length && !lines[last].equals(end)) {
                    last++;
                }
                Check.same("too long: " + lines[i].trim(), last - i + 1 > LONGEST_METHOD, false);
            }
        }
    }
}
