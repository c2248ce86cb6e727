import java.nio.file.Files;
import java.nio.file.Path;
import java.util.regex.Matcher;
import java.util.regex.Pattern;

/** Words and signs that LANGUAGE.md does not leave to src/main/java/TideDials.java, looked for in its text. */
public final class LanguageTest {
    private static final String[] RULED_OUT = {
        "^\\s*package\\b", "\\bimport\\b", "%", "->", "::", "\\bcatch\\b", "\\bfinally\\b", "\\btry\\b",
        "\\bassert\\b", "\\bsynchronized\\b", "\\bvar\\b", "\\bDouble\\b", "\\bFloat\\b", "\\bMath\\b",
        "\\bInteger\\b", "\\bLong\\b", "\\bString\\b", "\\bObject\\b", "\\bequals\\b", "\\bhashCode\\b",
        "\\btoString\\b", "\\bprotected\\b", "Exact\\b", "\\binstanceof\\b", "\\bSystem\\b", "\\bArrays?\\b",
        "\\bstrictfp\\b", "\\bnative\\b", "\\bvolatile\\b", "\\bThread\\b", "\\bstatic\\s*\\{",
        "\\bstatic\\s+(?!final\\b|class\\b)[\\w\\[\\]]+\\s+\\w+\\s*[=;]",
        "\\bstatic\\s+final\\s+(double|float)\\b",
    };
    // Rule 6 lists no exception that number() has to throw; the document names these three itself.
    private static final Pattern THROWN = Pattern.compile("\\bthrow\\s+(?!new (ClassCastException"
        + "|NullPointerException|ArrayIndexOutOfBoundsException)\\((\"[^\"]*\")?\\);)");

    private static int wrong = 0;

    private static void mustLack(String text, Pattern pattern) {
        Matcher found = pattern.matcher(text);
        while (found.find()) {
            wrong++;
            long line = text.substring(0, found.start()).lines().count();
            System.out.println("near line " + line + ": '" + found.group() + "' against " + pattern);
        }
    }

    private static String withoutComments(String text) {
        Matcher comment = Pattern.compile("/\\*.*?\\*/|//[^\\n]*", Pattern.DOTALL).matcher(text);
        return comment.replaceAll(m -> m.group().replaceAll("[^\\n]", " "));
    }

    public static void main(String[] args) throws Exception {
        String text = withoutComments(Files.readString(Path.of("src/main/java/TideDials.java")));
        for (String word : RULED_OUT) {
            mustLack(text, Pattern.compile(word, Pattern.MULTILINE));
        }
        mustLack(text, THROWN);
        System.out.println(wrong == 0 ? "the text keeps to the language" : wrong + " places do not keep to it");
        if (wrong != 0) {
            System.exit(1);
        }
    }
}
