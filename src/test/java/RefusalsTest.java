import java.util.ArrayList;
import java.util.Arrays;
import java.util.List;

/**
 * Each range and each "Throws .. if .." sentence of the face from one table: the least and the greatest value are
 * taken, those next to them and far ones refused by the exception that is listed first, and a refused call changes
 * nothing. What is due to a call that is taken is told by Replay.
 */
public final class RefusalsTest {
    private static final int CALLS = 512;
    private static final String INDEX = "IndexOutOfBoundsException";
    private static final String ARGUMENT = "IllegalArgumentException";
    private static final String STATE = "IllegalStateException";
    private static final String UNSUPPORTED = "UnsupportedOperationException";
    private static final String NONE = "NoSuchElementException";

    /** The parameters of each method: a piano, a note, an act, a limit's sign, an index, or a range. */
    private static final String[] METHODS = {
        "piano 0..63 1..24 1000..250000", "rate 0..87", "string piano note 50..2000 70..160 1..3",
        "strings piano note", "tension piano note", "load piano note", "borne piano", "pitch piano note",
        "tune piano note -500..500", "rateOf piano note", "beats piano note 1..8 note 1..8",
        "quietest piano note 1..8 note 1..8", "setting piano note 0..4", "adjust piano note 0..4 -50..50",
        "hardness piano note", "felt piano note", "needle piano note 1..20", "harden piano note 1..50",
        "file piano note", "tone piano note", "uneven piano", "play piano note 1..9 1..9999", "blows piano note",
        "type 0..23 1..9", "wipe", "perform piano 1..999", "weather piano 1..365 0..99", "moisture piano",
        "limit piano sign 0..999", "isWithin piano note sign", "worst piano note", "faults piano",
        "fault piano index", "isReady piano", "readiest", "blame piano note sign", "acts", "actAt act",
        "pianoOf act", "back", "minutes piano", "checksum piano", "readyShare piano", "meanTone piano", "isSound"
    };

    /** Two pianos of three notes, of which the last ones are not strung and one has no felt; acts of each kind. */
    private static final String BUSY = """
        piano(39, 3, 250000)
        piano(39, 3, 1000)
        type(0, 9)
        type(1, 4)
        limit(0, 'p', 600)
        limit(0, 'a', 25)
        string(0, 0, 825, 100, 3)
        string(0, 1, 570, 99, 2)
        string(1, 0, 700, 90, 1)
        12 x file(0, 2)
        tune(0, 0, 480)
        adjust(0, 0, 2, 6)
        needle(0, 1, 3)
        harden(1, 1, 7)
        play(0, 1, 5, 900)
        perform(0, 3)
        weather(0, 9, 70)
        """;
    private static final String FULL = BUSY + "278 x adjust(1, 2, 3, 1)";

    public static void main(String[] args) {
        Checks.same("methods of the table", 45, METHODS.length);
        Checks.same("acts of the full house", 300, house(FULL).acts());
        for (String method : METHODS) {
            String[] words = method.split(" ");
            String name = words[0];
            String[] kinds = Arrays.copyOfRange(words, 1, words.length);
            edgesAreTaken(name, kinds);
            beyondIsRefused(name, kinds);
            twoWrongOnesAreToldInOrder(name, kinds);
            withoutPianos(name, kinds);
        }
        unsupportedAndNone();
        threeHundredActs();
        rangesAheadOfTheRest();
        wipeRefusesNothing();
        Checks.end("RefusalsTest");
    }

    private static Hammerline house(String text) {
        Hammerline x = new Hammerline();
        for (Script.Step step : Script.steps(text)) {
            for (int time = 0; time < step.times(); time++) {
                Calls.answer(x, step.name(), step.numbers());
            }
        }
        return x;
    }

    private static String due(String text, String name, int[] numbers) {
        Replay replay = new Replay();
        for (Script.Step step : Script.steps(text)) {
            for (int time = 0; time < step.times(); time++) {
                answer(replay, step.name(), step.numbers());
            }
        }
        return answer(replay, name, numbers);
    }

    private static String answer(Replay replay, String name, int[] numbers) {
        return Calls.ACTS.contains(name) ? replay.act(name, numbers) : replay.other(name, numbers);
    }

    private static void refuses(String text, String want, String name, int... numbers) {
        String call = name + Arrays.toString(numbers);
        Hammerline x = house(text);
        Checks.same(call, want, Calls.answer(x, name, numbers));
        int calls = text.equals(FULL) ? CALLS - 340 : CALLS - 60;
        House.alike(call + " changes nothing", house(text), x, calls);
    }

    private static boolean isRange(String kind) {
        return kind.contains("..");
    }

    private static int edge(String range, int which) {
        return Integer.parseInt(range.split("\\.\\.")[which]);
    }

    /** What fits a parameter: of a range the least or the greatest; the second note of a call is another one. */
    private static int fitting(String[] kinds, int at, int which) {
        return switch (kinds[at]) {
            case "piano", "act", "index" -> 0;
            case "note" -> at > 1 ? 1 : 0;
            case "sign" -> "at".charAt(which);
            default -> edge(kinds[at], which);
        };
    }

    private static int[] allFitting(String[] kinds, int which) {
        int[] made = new int[kinds.length];
        for (int i = 0; i < made.length; i++) {
            made[i] = fitting(kinds, i, which);
        }
        return made;
    }

    private static int[] wrong(String kind) {
        return switch (kind) {
            case "piano" -> new int[] {-1, 2, 3, 4, Integer.MIN_VALUE, Integer.MAX_VALUE};
            case "note" -> new int[] {-1, 3, 23, 24, Integer.MIN_VALUE, Integer.MAX_VALUE};
            case "act" -> new int[] {-1, 22, 23, 299, 300, Integer.MIN_VALUE, Integer.MAX_VALUE};
            case "sign" -> new int[] {'P', 'o', 'q', 'b', 's', 'u', 0, 'p' + 256, 65535};
            case "index" -> new int[] {-1, 72, Integer.MIN_VALUE, Integer.MAX_VALUE};
            default -> new int[] {edge(kind, 0) - 1, edge(kind, 1) + 1, Integer.MIN_VALUE, Integer.MAX_VALUE};
        };
    }

    private static String exceptionOf(String kind) {
        return switch (kind) {
            case "piano", "note", "act" -> INDEX;
            case "index" -> NONE;
            default -> ARGUMENT;
        };
    }

    private static void edgesAreTaken(String name, String[] kinds) {
        for (int which = 0; which < 2; which++) {
            taken(name, allFitting(kinds, which));
            for (int i = 0; i < kinds.length; i++) {
                if (isRange(kinds[i])) {
                    int[] numbers = allFitting(kinds, 1 - which);
                    numbers[i] = fitting(kinds, i, which);
                    taken(name, numbers);
                }
            }
        }
    }

    private static void taken(String name, int[] numbers) {
        String got = Calls.answer(house(BUSY), name, numbers);
        String call = name + Arrays.toString(numbers);
        Checks.same(call, due(BUSY, name, numbers), got);
        if (!name.equals("blame")) {
            Checks.same(call + " is not refused", false, got.endsWith("Exception"));
        }
    }

    private static void beyondIsRefused(String name, String[] kinds) {
        for (int i = 0; i < kinds.length; i++) {
            for (int number : wrong(kinds[i])) {
                int[] numbers = allFitting(kinds, i % 2);
                numbers[i] = number;
                refuses(BUSY, exceptionOf(kinds[i]), name, numbers);
            }
        }
    }

    /** No such piano, note or act is listed ahead of all the rest, in which place of the call it may stand. */
    private static void twoWrongOnesAreToldInOrder(String name, String[] kinds) {
        for (int i = 0; i < kinds.length; i++) {
            for (int j = i + 1; j < kinds.length; j++) {
                String one = exceptionOf(kinds[i]);
                String other = exceptionOf(kinds[j]);
                for (int k = 0; k < 2; k++) {
                    int[] numbers = allFitting(kinds, k);
                    numbers[i] = wrong(kinds[i])[k];
                    numbers[j] = wrong(kinds[j])[k];
                    refuses(BUSY, one.equals(INDEX) || other.equals(INDEX) ? INDEX : one, name, numbers);
                }
            }
        }
    }

    private static void withoutPianos(String name, String[] kinds) {
        List<String> of = List.of(kinds);
        if (of.contains("piano") || of.contains("act")) {
            refuses("", INDEX, name, allFitting(kinds, 0));
            int[] numbers = new int[kinds.length];
            Arrays.fill(numbers, -1000);
            refuses("", INDEX, name, numbers);
        }
    }

    private static void unsupportedAndNone() {
        refuses(BUSY, UNSUPPORTED, "string", 1, 0, 2000, 160, 3);
        refuses(BUSY, UNSUPPORTED, "string", 1, 2, 2000, 160, 3);
        refuses(BUSY, UNSUPPORTED, "tune", 0, 2, 0);
        refuses(BUSY, UNSUPPORTED, "file", 0, 2);
        refuses(BUSY, UNSUPPORTED, "play", 0, 2, 1, 1);
        refuses(BUSY + "wipe()", UNSUPPORTED, "perform", 0, 1);
        for (String name : new String[] {"tension", "load", "pitch", "rateOf", "tone"}) {
            refuses(BUSY, NONE, name, 0, 2);
        }
        for (String name : new String[] {"beats", "quietest"}) {
            refuses(BUSY, NONE, name, 0, 2, 1, 0, 1);
            refuses(BUSY, NONE, name, 0, 0, 1, 2, 1);
            refuses(BUSY, NONE, name, 1, 1, 1, 2, 1);
        }
        refuses(BUSY, NONE, "beats", 0, 2, 1, 2, 1);
        refuses(BUSY, ARGUMENT, "quietest", 0, 1, 1, 1, 2);
        refuses(BUSY, NONE, "blame", 0, 2, 'p');
        refuses(BUSY + "limit(0, 'a', 999)", NONE, "blame", 0, 0, 'a');
        refuses("", NONE, "readiest");
        refuses("", NONE, "back");
        refuses("piano(0, 1, 1000)", NONE, "meanTone", 0);
        refuses("4 x piano(0, 1, 1000)", STATE, "piano", 0, 1, 1000);
        refuses("30 x type(0, 1)", STATE, "type", 0, 1);
    }

    private static void threeHundredActs() {
        for (String method : METHODS) {
            String[] words = method.split(" ");
            String[] kinds = Arrays.copyOfRange(words, 1, words.length);
            if (Calls.ACTS.contains(words[0])) {
                refuses(FULL, STATE, words[0], allFitting(kinds, 0));
                refuses(FULL, STATE, words[0], allFitting(kinds, 1));
                for (int i = 0; i < kinds.length; i++) {
                    int[] numbers = allFitting(kinds, 0);
                    numbers[i] = wrong(kinds[i])[i % 2];
                    refuses(FULL, exceptionOf(kinds[i]), words[0], numbers);
                }
            }
        }
        refuses(FULL, UNSUPPORTED, "string", 1, 0, 2000, 160, 3);
        refuses(FULL, UNSUPPORTED, "tune", 0, 2, 0);
        refuses(FULL, UNSUPPORTED, "file", 0, 2);
        refuses(FULL, UNSUPPORTED, "play", 0, 2, 1, 1);
        refuses(FULL + "\nwipe()", UNSUPPORTED, "perform", 0, 1);
    }

    /** A number out of range is listed ahead of what the strings, the plate, the piece or the house would refuse. */
    private static void rangesAheadOfTheRest() {
        List<int[]> wrong = new ArrayList<>(List.of(
            new int[] {2001, 160, 3}, new int[] {2000, 161, 3}, new int[] {2000, 160, 4}));
        for (int[] row : wrong) {
            refuses(BUSY, ARGUMENT, "string", 1, 0, row[0], row[1], row[2]);
        }
        refuses(BUSY, ARGUMENT, "tune", 0, 2, 501);
        refuses(BUSY, ARGUMENT, "tune", 0, 2, -501);
        refuses(BUSY, ARGUMENT, "play", 0, 2, 10, 1);
        refuses(BUSY, ARGUMENT, "play", 0, 2, 1, 10000);
        refuses(BUSY + "wipe()", ARGUMENT, "perform", 0, 0);
        refuses(BUSY + "wipe()", ARGUMENT, "perform", 0, 1000);
        refuses(BUSY, ARGUMENT, "beats", 0, 2, 9, 0, 1);
        refuses(BUSY, ARGUMENT, "beats", 0, 0, 1, 2, 0);
        refuses(BUSY, ARGUMENT, "quietest", 0, 2, 9, 0, 1);
        refuses(BUSY, ARGUMENT, "quietest", 0, 2, 1, 2, 1);
        refuses("4 x piano(0, 1, 1000)", ARGUMENT, "piano", 64, 1, 1000);
        refuses("4 x piano(0, 1, 1000)", ARGUMENT, "piano", 0, 25, 1000);
        refuses("4 x piano(0, 1, 1000)", ARGUMENT, "piano", 0, 1, 999);
        refuses("30 x type(0, 1)", ARGUMENT, "type", 24, 1);
        refuses("30 x type(0, 1)", ARGUMENT, "type", 0, 10);
    }

    private static void wipeRefusesNothing() {
        Checks.same("wipe with 300 acts", "2", Calls.answer(house(FULL), "wipe"));
        Checks.same("type with 300 acts", "3", Calls.answer(house(FULL), "type", 0, 1));
        Checks.same("limit with 300 acts", "600", Calls.answer(house(FULL), "limit", 0, 'p', 1));
        Checks.same("piano with 300 acts", "2", Calls.answer(house(FULL), "piano", 0, 1, 1000));
    }
}
