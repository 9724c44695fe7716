import java.util.ArrayList;
import java.util.List;
import java.util.regex.Matcher;
import java.util.regex.Pattern;

/**
 * Calls on a new object, a line each, in the words of the document: "rate(0) = 2750", "rate(-1) throws
 * IllegalArgument", "300 x file(0, 0)" for calls whose answers are no matter, "least" and "most" for the edges of int.
 * After each call that throws, the object must tell the same as one on which it was never called.
 */
final class Script {
    private static final int CALLS = 512;
    private static final Pattern LINE =
        Pattern.compile("(?:(\\d+) x )?(\\w+)\\(([^)]*)\\)(?: = (\\S+)| throws (\\w+))?");

    record Step(int times, String line, String name, int[] numbers, String want, boolean isRefused) {
    }

    private final String title;
    private final List<Step> steps = new ArrayList<>();

    private Script(String title) {
        this.title = title;
    }

    static void run(String title, String text) {
        Script script = new Script(title);
        script.steps.addAll(steps(text));
        script.play();
    }

    static List<Step> steps(String text) {
        List<Step> made = new ArrayList<>();
        for (String line : text.split("\n")) {
            if (!line.isBlank()) {
                made.add(read(line.strip()));
            }
        }
        return made;
    }

    private static Step read(String line) {
        Matcher found = LINE.matcher(line);
        if (!found.matches()) {
            throw new Error("not a call: " + line);
        }
        int times = found.group(1) == null ? 1 : Integer.parseInt(found.group(1));
        String thrown = found.group(5);
        String want = thrown != null ? thrown + "Exception" : found.group(4);
        return new Step(times, line, found.group(2), numbers(found.group(3)), want, thrown != null);
    }

    private static int[] numbers(String text) {
        if (text.isBlank()) {
            return new int[0];
        }
        String[] parts = text.split(", ");
        int[] made = new int[parts.length];
        for (int i = 0; i < parts.length; i++) {
            made[i] = number(parts[i]);
        }
        return made;
    }

    private static int number(String text) {
        return switch (text) {
            case "least" -> Integer.MIN_VALUE;
            case "most" -> Integer.MAX_VALUE;
            default -> text.startsWith("'") ? text.charAt(1) : Integer.parseInt(text);
        };
    }

    private void play() {
        Hammerline x = new Hammerline();
        int used = 0;
        for (int i = 0; i < steps.size(); i++) {
            Step step = steps.get(i);
            for (int time = 0; time < step.times; time++) {
                check(step, Calls.answer(x, step.name, step.numbers));
            }
            used += step.times;
            if (step.isRefused) {
                checkUnchanged(i, CALLS - used);
            }
        }
        Checks.same(title + ": calls that an object bears", true, used <= CALLS);
    }

    private void check(Step step, String got) {
        if (step.want != null) {
            Checks.same(title + ": " + step.line, step.want, got);
        } else {
            Checks.same(title + ": " + step.line + " is not refused", false, got.endsWith("Exception"));
        }
    }

    private void checkUnchanged(int refused, int calls) {
        String what = title + ": " + steps.get(refused).line + " changes nothing";
        House.alike(what, played(refused), played(refused + 1), calls);
    }

    private Hammerline played(int count) {
        Hammerline x = new Hammerline();
        for (Step step : steps.subList(0, count)) {
            for (int time = 0; time < step.times; time++) {
                Calls.answer(x, step.name, step.numbers);
            }
        }
        return x;
    }
}
