import java.io.IOException;
import java.nio.charset.StandardCharsets;
import java.nio.file.Files;
import java.nio.file.Path;
import java.util.regex.Matcher;
import java.util.regex.Pattern;

/** Rules of LANGUAGE.md that the source's text tells; run from the project's folder. */
public final class LanguageTest {
    private static final Check check = new Check();
    private static final String[] WORDS = {
        "package", "throw", "throws", "try", "catch", "finally", "synchronized", "assert", "volatile", "native",
        "protected", "Object", "Thread", "Random", "hashCode", "equals", "toString", "instanceof", "var"
    };
    private static final String[] SIGNS = {"->", "::", "@", "\"", "System.", "java."};

    public static void main(String[] args) throws IOException {
        String source = Files.readString(Path.of("src/main/java/HardShop.java"), StandardCharsets.ISO_8859_1);
        String code = source.replaceAll("(?s)/\\*.*?\\*/", "").replaceAll("//[^\n]*", "");
        for (String word : WORDS) {
            check.that("no word " + word, !Pattern.compile("\\b" + word + "\\b").matcher(code).find());
        }
        for (String sign : SIGNS) {
            check.that("no sign " + sign, !code.contains(sign));
        }
        check.that("no method named as those ending in Exact", !Pattern.compile("Exact\\b").matcher(code).find());
        divisors(code);
        methodLengths(code);
        check.end();
    }

    private static void divisors(String code) {
        Matcher m = Pattern.compile("[/%]\\s*(\\S+)").matcher(code);
        while (m.find()) {
            check.that("the divisor " + m.group(1) + " is a constant", m.group(1).matches("[A-Z_]+;?\\)*;?"));
        }
    }

    private static void methodLengths(String code) {
        int length = 0;
        for (String line : code.split("\n")) {
            length = line.isBlank() ? 0 : length + 1;
            check.that("no method of over sixty lines", length <= 60);
        }
    }
}
