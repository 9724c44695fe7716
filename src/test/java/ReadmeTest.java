import java.io.IOException;
import java.nio.charset.StandardCharsets;
import java.nio.file.Files;
import java.nio.file.Path;
import java.util.ArrayList;
import java.util.Comparator;
import java.util.List;
import java.util.regex.Pattern;
import java.util.stream.Stream;

/** README.md says what is so: its calls answer as told, its program prints what it tells, its commands run. */
public final class ReadmeTest {
    private static final Path PAGE = Path.of("README.md");
    /** This command runs this very test, so it is not run from here. */
    private static final String ALL_TESTS = "bash .ci/run\n";

    public static void main(String[] args) throws IOException, InterruptedException {
        String page = Files.readString(PAGE, StandardCharsets.UTF_8);
        List<String> runs = blocks(page, "text");
        for (int i = 0; i < runs.size(); i++) {
            Script.run("README.md, run " + (i + 1), runs.get(i));
        }
        Checks.same("a run for each part of the face", 7, runs.size());
        everyCallIsTold(page);
        Checks.same("the command of all tests is told", true, blocks(page, "sh").contains(ALL_TESTS));
        Checks.same("it can be run", true, Files.isExecutable(Path.of(".ci/run")));
        Path room = Files.createTempDirectory("readme");
        try {
            commandsRun(page, room);
        } finally {
            remove(room);
        }
        Checks.end("ReadmeTest");
    }

    private static List<String> blocks(String page, String kind) {
        return Pattern.compile("(?ms)^```" + kind + "\n(.*?)^```$").matcher(page).results()
            .map(found -> found.group(1)).toList();
    }

    private static void everyCallIsTold(String page) {
        for (var method : Hammerline.class.getDeclaredMethods()) {
            if ((method.getModifiers() & 1) != 0) {
                String name = method.getName();
                Checks.same(name + " is told in words", true,
                    Pattern.compile("`" + name + "[`(]").matcher(page).find());
                Checks.same(name + " is shown in a run", true,
                    String.join("\n", blocks(page, "text")).lines().anyMatch(line -> line.startsWith(name + "(")));
            }
        }
    }

    /** Runs the commands in a copy of the project, as they leave classes behind. */
    private static void commandsRun(String page, Path room) throws IOException, InterruptedException {
        Path project = Files.createDirectories(room.resolve("project"));
        copy(Path.of("src"), project.resolve("src"));
        copy(Path.of("../shared/tests"), room.resolve("shared/tests"));
        Files.writeString(project.resolve("Example.java"), blocks(page, "java").get(0));
        List<String> told = new ArrayList<>(blocks(page, "output"));
        for (String commands : blocks(page, "sh")) {
            if (!commands.equals(ALL_TESTS)) {
                String printed = printed(commands, project, room.resolve("printed"));
                if (commands.contains("Example")) {
                    Checks.same("what the example prints", told.remove(0), printed);
                }
            }
        }
        Checks.same("what is told to be printed, but is not", List.of(), told);
    }

    private static String printed(String commands, Path project, Path to) throws IOException, InterruptedException {
        Process run = new ProcessBuilder("bash", "-e", "-c", commands).directory(project.toFile())
            .redirectErrorStream(true).redirectOutput(to.toFile()).start();
        Checks.same("exit code of " + commands, 0, run.waitFor());
        return Files.readString(to);
    }

    private static void copy(Path from, Path to) throws IOException {
        try (Stream<Path> found = Files.walk(from)) {
            for (Path each : found.toList()) {
                Path copied = to.resolve(from.relativize(each).toString());
                if (Files.isDirectory(each)) {
                    Files.createDirectories(copied);
                } else {
                    Files.copy(each, copied);
                }
            }
        }
    }

    private static void remove(Path room) throws IOException {
        try (Stream<Path> found = Files.walk(room)) {
            for (Path each : found.sorted(Comparator.reverseOrder()).toList()) {
                Files.delete(each);
            }
        }
    }
}
