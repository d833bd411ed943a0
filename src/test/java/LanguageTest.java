import java.io.IOException;
import java.nio.charset.StandardCharsets;
import java.nio.file.Files;
import java.nio.file.Path;
import java.util.regex.Matcher;
import java.util.regex.Pattern;

/** Rules of LANGUAGE.md that the source's text tells; run from the project's folder. */
public final class LanguageTest {
    private static final Check check = new Check();
    private static final int MOST_LINES = 65;
    private static final String[] WORDS = {
        "package", "throw", "throws", "try", "catch", "finally", "synchronized", "assert", "native", "volatile",
        "hashCode", "Object", "Thread", "Random", "random", "nanoTime", "currentTimeMillis", "getenv", "System.out"
    };
    private static final Pattern LAMBDA_OR_REFERENCE = Pattern.compile("->|::");
    private static final Pattern STATIC_BLOCK = Pattern.compile("\\bstatic\\s*\\{");
    private static final Pattern METHOD = Pattern.compile("^ *(?:[\\w\\[\\]<>]+ )+\\w+\\([^;]*\\) \\{$", Pattern.MULTILINE);

    public static void main(String[] args) throws IOException {
        String source = Files.readString(Path.of("src/main/java/HardShop.java"), StandardCharsets.ISO_8859_1);
        String code = source.replaceAll("(?s)/\\*.*?\\*/", "").replaceAll("//[^\n]*", "");
        forbiddenWords(code);
        divisors(code);
        methodLengths(code);
        check.end();
    }

    private static void forbiddenWords(String code) {
        for (String word : WORDS) {
            check.that("no word " + word, !Pattern.compile("\\b" + Pattern.quote(word) + "\\b").matcher(code).find());
        }
        String withoutCases = code.replaceAll("(?:case [^:;>]*|default) ->", "");
        check.that("no lambda, no method reference", !LAMBDA_OR_REFERENCE.matcher(withoutCases).find());
        check.that("no static initialiser block", !STATIC_BLOCK.matcher(code).find());
        check.that("none of those ending in Exact", !Pattern.compile("Exact\\b").matcher(code).find());
        check.that("one public class", !Pattern.compile("(?s)public .*\\bpublic (?:static |final )*class\\b").matcher(code).find());
    }

    private static void divisors(String code) {
        check.that("no divisor is 0", !Pattern.compile("[/%]\\s*0\\b").matcher(code).find());
    }

    private static void methodLengths(String code) {
        Matcher m = METHOD.matcher(code);
        while (m.find()) {
            int end = endOfBlock(code, m.end());
            long lines = code.substring(m.start(), end).lines().count();
            check.that(m.group().trim() + " has some sixty lines at most, not " + lines, lines <= MOST_LINES);
        }
    }

    private static int endOfBlock(String code, int from) {
        int open = 1;
        int at = from;
        while (open > 0 && at < code.length()) {
            open += code.charAt(at) == '{' ? 1 : code.charAt(at) == '}' ? -1 : 0;
            at++;
        }
        return at;
    }
}
