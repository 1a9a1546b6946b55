import java.io.IOException;
import java.nio.file.Files;
import java.nio.file.Path;
import java.util.Set;
import java.util.regex.Matcher;
import java.util.regex.Pattern;

/** Those rules of ../shared/LANGUAGE.md that a look at the words of the source can tell. */
public final class SourceRulesTest {
    private static final String[] RULED_OUT = {
        "\\b(package|import)\\b", "\\b(throw|throws|try|catch|finally|synchronized|assert)\\b",
        "->", "::", "@", "\\bprotected\\b", "\\w+Exact\\b", "\\b(Object|Random|Thread|System)\\b",
        "\\bstatic\\s*\\{", "\\b(equals|hashCode|toString)\\b", "\\bvar\\b", "\\b(float|double)\\b",
        "while \\(true\\)", "for \\([^;]*;\\s*;", "\\((Walk|Line|Arc)\\)"};

    // Of the names that begin with a great letter, the class's own and Math are all that are used.
    private static final Set<String> NAMES = Set.of("TickWalks", "Walk", "Line", "Arc", "Math");
    private static final Set<String> MATH = Set.of("max", "abs", "floorDiv");

    private static final int LONGEST_METHOD = 60;
    private static final Checks CHECKS = new Checks();

    public static void main(String[] args) throws IOException {
        String source = Files.readString(Path.of("src/main/java/TickWalks.java"));
        String code = source.replaceAll("(?s)/\\*.*?\\*/", "").replaceAll("//[^\n]*", "");
        for (String words : RULED_OUT) {
            Matcher matcher = Pattern.compile(words).matcher(code);
            CHECKS.due("ruled out: " + words, matcher.find() ? matcher.group() : "", "");
        }
        CHECKS.due("characters 0 to 127 alone", source.chars().allMatch(c -> c < 128), true);
        library(code);
        makingInFieldsAlone(code);
        methodsAreShort(code);
        CHECKS.end();
    }

    private static void library(String code) {
        Matcher names = Pattern.compile("\\b[A-Z]\\w*[a-z]\\w*").matcher(code);
        while (names.find()) {
            CHECKS.due(names.group() + " is a name that may be used", NAMES.contains(names.group()), true);
        }
        Matcher math = Pattern.compile("\\bMath\\.(\\w+)").matcher(code);
        while (math.find()) {
            CHECKS.due("Math." + math.group(1) + " is listed", MATH.contains(math.group(1)), true);
        }
    }

    // README.md says that no call makes an object: what is made is made where a field begins.
    private static void makingInFieldsAlone(String code) {
        for (String line : code.split("\n")) {
            if (line.matches(".*\\bnew\\b.*")) {
                CHECKS.due("made by a field: " + line.strip(), line.matches(" +private .*= new .*;"), true);
            }
        }
    }

    private static void methodsAreShort(String code) {
        Matcher methods = Pattern.compile(
            "(?ms)^( +)(?=\\S)(?!if\\b|for\\b)[\\w\\[\\] ]+\\([^()]*\\) \\{\n(.*?)^\\1\\}").matcher(code);
        int found = 0;
        while (methods.find()) {
            found++;
            String first = methods.group().strip().split("\n")[0];
            CHECKS.due(first + " is short", methods.group(2).lines().count() <= LONGEST_METHOD, true);
        }
        CHECKS.due("methods are found", found > 20, true);
    }
}
