import java.io.IOException;
import java.nio.charset.StandardCharsets;
import java.nio.file.Files;
import java.nio.file.Path;
import java.util.List;
import java.util.Set;
import java.util.TreeSet;
import java.util.regex.Matcher;
import java.util.regex.Pattern;

/** What of LANGUAGE.md can be read off the text of the class. It is run from the project's own folder. */
public final class LanguageTest {
    private static final Path SOURCE = Path.of("src/main/java/Hammerline.java");
    private static final String[] RULED_OUT = {
        "->", "::", "\\btry\\b", "\\bcatch\\b", "\\bfinally\\b", "\\bsynchronized\\b", "\\bassert\\b",
        "\\binstanceof\\b", "\\bpackage\\b", "\\bThread\\b", "\\bSystem\\b", "Random", "\\bString\\b", "\\bObject\\b",
        "Exact\\(", "static\\s*\\{", "\\bextends\\b", "\\bimplements\\b", "\\bprotected\\b", "getMessage",
        "\\bhashCode\\b", "\\btoString\\b", "\\bfor\\s*\\(\\s*;", "while\\s*\\(\\s*true"
    };
    private static final Set<String> LIBRARY = Set.of(
        "Math.abs", "Math.max", "Math.min", "Math.floorMod");
    private static final Set<String> THROWN = Set.of(
        "IllegalStateException", "IllegalArgumentException", "IndexOutOfBoundsException",
        "UnsupportedOperationException", "NoSuchElementException");

    public static void main(String[] args) throws IOException {
        String whole = Files.readString(SOURCE, StandardCharsets.UTF_8);
        String code = whole.replaceAll("(?s)/\\*.*?\\*/", "").replaceAll("//[^\n]*", "");
        for (String pattern : RULED_OUT) {
            Checks.same("finds of " + pattern, List.of(), all(pattern, code));
        }
        Checks.same("signs above 127", List.of(), all("[^\\x00-\\x7f]", whole));
        Checks.same("imports", List.of("import java.util.NoSuchElementException;"), all("import [^\n]*", code));
        Checks.same("library", LIBRARY, new TreeSet<>(all("\\b(?:Math|Integer|Long|Arrays)\\.\\w+", code)));
        Checks.same("thrown", new TreeSet<>(THROWN), thrown(code));
        Checks.same("classes, twelve at most", true, all("\\bclass\\s+\\w+", code).size() <= 12);
        methodsAreShort(whole);
        Checks.end("LanguageTest");
    }

    private static List<String> all(String pattern, String text) {
        return Pattern.compile(pattern).matcher(text).results().map(r -> r.group()).toList();
    }

    private static Set<String> thrown(String code) {
        Set<String> found = new TreeSet<>();
        Matcher matcher = Pattern.compile("\\bthrow new (\\w+)\\(\\)").matcher(code);
        while (matcher.find()) {
            found.add(matcher.group(1));
        }
        Checks.same("each throw makes its exception", all("\\bthrow\\b", code).size(),
            all("\\bthrow new \\w+\\(\\);", code).size());
        return found;
    }

    private static void methodsAreShort(String whole) {
        String[] lines = whole.split("\n");
        int begun = 0;
        for (int i = 0; i < lines.length; i++) {
            if (lines[i].matches(" {4,8}\\S.*[({,]") && !lines[i].contains("class ")) {
                begun = i;
            }
            if (lines[i].matches(" {4,8}\\}")) {
                Checks.same("lines of a method that ends at " + (i + 1), true, i - begun < 40);
            }
        }
    }
}
