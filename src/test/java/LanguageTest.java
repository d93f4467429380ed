import java.io.IOException;
import java.nio.charset.StandardCharsets;
import java.nio.file.Files;
import java.nio.file.Path;
import java.util.regex.Matcher;
import java.util.regex.Pattern;

/** What LANGUAGE.md rules out and a search can find in the class; .ci/run starts it in the project's folder. */
public final class LanguageTest {
    private static final String[] RULED_OUT = {
        "\\bimport\\b", "\\bpackage\\b", "\\b(Float|Double|System|Object|Thread)\\s*\\.", "\\bstrictfp\\b", "\\bNaN\\b",
        "\\b(try|catch|finally|throw|throws|synchronized|assert|volatile|native)\\b", "->", "::", "\\bstatic\\s*\\{",
        "\\b(equals|hashCode|toString|values|valueOf)\\s*\\(", "Exact\\b", "[^\\x00-\\x7f]"
    };
    private static final Pattern COMMENT = Pattern.compile("/\\*.*?\\*/|//[^\\n]*", Pattern.DOTALL);
    private static final Pattern LIBRARY = Pattern.compile("\\b(Math|Integer|Long)\\.\\w+");

    private static int wrong = 0;

    public static void main(String[] args) throws IOException {
        String source = Files.readString(Path.of("src/main/java/DialTrain.java"), StandardCharsets.UTF_8);
        String code = COMMENT.matcher(source).replaceAll(" ");
        for (String word : RULED_OUT) {
            Matcher found = Pattern.compile(word).matcher(code);
            while (found.find()) {
                tell("ruled out: " + found.group());
            }
        }
        Matcher library = LIBRARY.matcher(code);
        while (library.find()) {
            if (!library.group().matches("Math\\.(min|max|abs|floorDiv|floorMod)|(Integer|Long)\\.(compare|bitCount|M\\w+_VALUE)")) {
                tell("not of the library that is left: " + library.group());
            }
        }
        System.out.println(wrong == 0 ? "nothing that is ruled out was found" : wrong + " things that are ruled out");
        if (wrong != 0) {
            System.exit(1);
        }
    }

    private static void tell(String what) {
        wrong++;
        System.out.println(what);
    }
}
