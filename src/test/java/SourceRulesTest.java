import java.io.IOException;
import java.nio.file.Files;
import java.nio.file.Path;
import java.util.regex.Matcher;
import java.util.regex.Pattern;

/** Those rules of ../shared/LANGUAGE.md that a look at the words of the source can tell. */
public final class SourceRulesTest {
    private static final String[] RULED_OUT = {
        "\\b(package|import)\\b", "\\b(throw|throws|try|catch|finally|synchronized|assert)\\b",
        "->", "::", "\\bprotected\\b", "\\w+Exact\\b", "\\b(Object|Random|Thread|System\\.(?!arraycopy))\\b",
        "\\bstatic\\s*\\{", "\\b(equals|hashCode|toString)\\b", "\\bvar\\b"};

    public static void main(String[] args) throws IOException {
        Checks checks = new Checks();
        String source = Files.readString(Path.of("src/main/java/TickWalks.java"));
        String code = source.replaceAll("(?s)/\\*.*?\\*/", "").replaceAll("//[^\n]*", "");
        for (String words : RULED_OUT) {
            Matcher matcher = Pattern.compile(words).matcher(code);
            checks.due("ruled out: " + words, matcher.find(), false);
        }
        checks.due("characters 0 to 127 alone", source.chars().allMatch(c -> c < 128), true);
        checks.end();
    }
}
