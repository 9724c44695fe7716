import java.io.IOException;
import java.lang.reflect.Method;
import java.lang.reflect.Modifier;
import java.nio.charset.StandardCharsets;
import java.nio.file.Files;
import java.nio.file.Path;
import java.util.ArrayList;
import java.util.List;
import java.util.TreeSet;
import java.util.regex.Matcher;
import java.util.regex.Pattern;
import java.util.stream.Collectors;
import java.util.stream.Stream;

/** What of the document can be read off its own text: the face, each promise's section, the first example. */
public final class DocumentTest {
    private static final Path DOCUMENT = Path.of("../shared/DOC.md");
    private static final Path SOURCE = Path.of("src/main/java/Hammerline.java");
    private static final Pattern CALL = Pattern.compile("(\\w+\\([^)]*\\)) = (\\S+?)(?:;|\\.$|$)", Pattern.MULTILINE);

    public static void main(String[] args) throws IOException {
        String document = Files.readString(DOCUMENT, StandardCharsets.UTF_8);
        List<String> face = face(document);
        Checks.same("methods of the document's face", 45, face.size());
        Checks.same("methods of the class", new TreeSet<>(face), shown());
        promises(document, face);
        groups(document, Files.readString(SOURCE, StandardCharsets.UTF_8));
        firstExample(document);
        Checks.end("DocumentTest");
    }

    private static List<String> all(String pattern, String text) {
        return Pattern.compile(pattern, Pattern.MULTILINE).matcher(text).results().map(r -> r.group(1)).toList();
    }

    /** Without the names of parameters, as a class that is compiled does not tell them. */
    private static String withoutNames(String signature) {
        return signature.replaceAll("(int|char) \\w+([,)])", "$1$2");
    }

    private static List<String> face(String document) {
        String block = document.substring(document.indexOf("```java"), document.indexOf("## Terms"));
        return all("^    public (\\w+ \\w+\\(.*);$", block);
    }

    private static TreeSet<String> shown() throws IOException {
        String source = Files.readString(SOURCE, StandardCharsets.UTF_8).replaceAll("\\s+", " ");
        TreeSet<String> told = new TreeSet<>(all("public (\\w+ \\w+\\([^{]*?) \\{", source));
        Checks.same("what is written is what is compiled",
            told.stream().map(DocumentTest::withoutNames).collect(Collectors.toCollection(TreeSet::new)),
            Stream.of(Hammerline.class.getDeclaredMethods()).filter(m -> Modifier.isPublic(m.getModifiers()))
                .map(DocumentTest::signature).collect(Collectors.toCollection(TreeSet::new)));
        return told;
    }

    private static String signature(Method method) {
        String text = method.getReturnType() + " " + method.getName() + names(method.getParameterTypes(), "(", ")");
        return method.getExceptionTypes().length == 0 ? text : text + names(method.getExceptionTypes(), " throws ", "");
    }

    private static String names(Class<?>[] types, String ahead, String behind) {
        return Stream.of(types).map(Class::getSimpleName).collect(Collectors.joining(", ", ahead, behind));
    }

    /** Each promise tells its call as the face does, and its exceptions in the order in which they are listed. */
    private static void promises(String document, List<String> face) {
        String[] sections = document.split("(?m)^## Promise ");
        Checks.same("promises", 46, sections.length - 1);
        for (int i = 2; i < sections.length; i++) {
            String section = sections[i].split("(?m)^## ")[0];
            String due = face.get(i - 2);
            String name = due.replaceAll("\\w+ (\\w+)\\(.*", "$1");
            Checks.same("promise " + i, true, section.startsWith(i + ": " + name + "\n"));
            Checks.same("the call of promise " + i, List.of(due), all("^`(\\w+ \\w+\\([^`]*)`: ", section));
            String thrown = String.join(", ", all("^Throws `(\\w+)` if ", section));
            String told = due.contains(" throws ") ? due.replaceAll(".* throws ", "") : "";
            Checks.same("the exceptions of promise " + i, told, thrown);
        }
    }

    /** The class tells its calls in the document's order, under the document's words for each group. */
    private static void groups(String document, String source) {
        List<String> due = new ArrayList<>();
        Matcher line = Pattern.compile("(?m)^Ahead of the calls (.*) the interface says: (.*)\\.$").matcher(document);
        while (line.find()) {
            due.add("// " + line.group(2));
            due.addAll(all("`(\\w+)`", line.group(1)));
        }
        List<String> got = all("^    (?=//|public (?!Hammerline))(?:public \\w+ )?(// .*|\\w+)", source);
        Checks.same("calls under their groups", due, got.subList(0, Math.min(due.size(), got.size())));
    }

    private static void firstExample(String document) {
        String example = document.split("First example:")[1].split("```")[1];
        StringBuilder calls = new StringBuilder();
        int count = 0;
        Matcher call = CALL.matcher(example);
        while (call.find()) {
            calls.append(call.group(1)).append(" = ").append(call.group(2)).append('\n');
            count++;
        }
        Checks.same("calls of the first example", example.split("\\) = ").length - 1, count);
        Script.run("first example", calls.toString());
    }
}
