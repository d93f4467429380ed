import java.io.IOException;
import java.nio.charset.StandardCharsets;
import java.nio.file.Files;
import java.nio.file.Path;
import java.util.regex.Matcher;
import java.util.regex.Pattern;

/** What LANGUAGE.md rules out and a search can find in the class; .ci/run starts it in the project's folder. */
public final class LanguageTest {
    private static final Pattern COMMENT = Pattern.compile("/\\*.*?\\*/|//[^\\n]*", Pattern.DOTALL);
    private static final Pattern SWITCH_ARROW = Pattern.compile("\\b(case\\b[^;{}]*?|default\\s*)->");
    private static final String EXCEPTIONS = "IllegalStateException|IllegalArgumentException|IndexOutOfBoundsException|"
            + "ArithmeticException|UnsupportedOperationException|NoSuchElementException|RuntimeException";

    private static int wrong = 0;

    public static void main(String[] args) throws IOException {
        String source = Files.readString(Path.of("src/main/java/DialTrain.java"), StandardCharsets.UTF_8);
        String code = SWITCH_ARROW.matcher(COMMENT.matcher(source).replaceAll(" ")).replaceAll("case:");
        never("the face", code, "\\bpackage\\s+[\\w.]+\\s*;");
        never("rule 2", code, "->|::");
        never("rule 3", code, "\\bNaN\\b|[^\\x00-\\xff]");
        only("rule 4", code, "\\bimport\\s[^;]*;", "import\\s+java\\.util\\.(ArrayList|List|Arrays|Iterator|NoSuchElementException);");
        only("rule 4", code, "\\bSystem\\s*\\.\\s*\\w+", "System\\.arraycopy");
        never("rule 4", code, "\\b(Float|Double|Object|Objects)\\s*\\.");
        never("rule 4", code, "\\b\\w+Exact\\b|\\bMath\\s*\\.\\s*(random|sqrt|pow|floor|ceil|rint|round|scalb|getExponent|fma)\\b");
        never("rule 5", code, "\\bstatic\\s*\\{");
        never("rule 6", code, "\\b(finally|synchronized|assert|throws|hashCode|getMessage)\\b|\\btry\\s*\\(");
        only("rule 6", code, "\\bthrow\\s+new\\s+\\w+", "throw\\s+new\\s+(" + EXCEPTIONS + ")");
        only("rule 6", code, "\\bcatch\\s*\\([^)]*\\)",
                "catch\\s*\\(\\s*(final\\s+)?(" + EXCEPTIONS + ")(\\s*\\|\\s*(" + EXCEPTIONS + "))*\\s+\\w+\\s*\\)");
        never("rule 7", code, "\\b(ArrayIndexOutOfBounds|NullPointer|ClassCast|NegativeArraySize|ArrayStore)Exception\\b");
        never("rule 13", code, "\\b(Random|Thread|Runtime|File|Files|Path|Socket|Instant|Clock)\\b");
        System.out.println(wrong == 0 ? "nothing that is ruled out was found" : wrong + " things that are ruled out");
        if (wrong != 0) {
            System.exit(1);
        }
    }

    private static void never(String rule, String code, String words) {
        only(rule, code, words, "(?!)");
    }

    /** Whatever looks like the first must be as the second. */
    private static void only(String rule, String code, String words, String allowed) {
        Matcher found = Pattern.compile(words).matcher(code);
        while (found.find()) {
            if (!found.group().matches(allowed)) {
                wrong++;
                System.out.println(rule + " rules out: " + found.group());
            }
        }
    }
}
