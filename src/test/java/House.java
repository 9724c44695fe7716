import java.util.Arrays;

/** What an object tells of all that it holds, as far as a number of calls goes; being asked uses it up. */
final class House {
    private static final String[] OF_PIANO = {
        "checksum", "minutes", "moisture", "borne", "faults", "uneven", "isReady", "readyShare", "meanTone"
    };
    private static final String[] OF_NOTE = {
        "strings", "tension", "load", "pitch", "rateOf", "hardness", "felt", "tone", "blows", "worst"
    };
    private static final char[] LIMITS = {'p', 'a', 't'};

    private final Hammerline x;
    private final StringBuilder told = new StringBuilder();
    private int left;

    private House(Hammerline x, int calls) {
        this.x = x;
        left = calls;
    }

    /** Checks that two objects tell the same; where they don't, the first line that differs is told. */
    static void alike(String what, Hammerline one, Hammerline other, int calls) {
        String[] due = tell(one, calls).split("\n");
        String[] got = tell(other, calls).split("\n");
        int line = Math.max(0, Arrays.mismatch(due, got));
        Checks.same(what, at(due, line), at(got, line));
    }

    private static String at(String[] lines, int line) {
        return line < lines.length ? lines[line] : "nothing more";
    }

    private static String tell(Hammerline x, int calls) {
        House house = new House(x, calls);
        house.tellLog();
        for (int piano = 0; piano < 4; piano++) {
            house.tellPiano(piano);
        }
        for (int piano = 0; piano < 4; piano++) {
            house.tellNotes(piano);
        }
        house.tellPiece();
        house.tellBack();
        return house.told.toString();
    }

    private String ask(String name, int... numbers) {
        if (left <= 0) {
            return "";
        }
        left--;
        String answer = Calls.answer(x, name, numbers);
        told.append(name).append(Arrays.toString(numbers)).append(' ').append(answer).append('\n');
        return answer;
    }

    private void tellLog() {
        int acts = Integer.parseInt(ask("acts"));
        ask("readiest");
        ask("isSound");
        for (int act = Math.max(0, acts - 3); act <= acts; act++) {
            ask("actAt", act);
            ask("pianoOf", act);
        }
    }

    private void tellPiano(int piano) {
        if (ask("checksum", piano).endsWith("Exception")) {
            return;
        }
        for (String name : OF_PIANO) {
            ask(name, piano);
        }
        for (char what : LIMITS) {
            String limit = ask("limit", piano, what, 0);
            ask("limit", piano, what, limit.isEmpty() ? 0 : Integer.parseInt(limit));
        }
    }

    /** Keeps some calls for what comes behind, which a piano of many notes would take up. */
    private void tellNotes(int piano) {
        for (int note = 0; left > 60 && !ask("hardness", piano, note).endsWith("Exception"); note++) {
            for (String name : OF_NOTE) {
                ask(name, piano, note);
            }
            for (int setting = 0; setting < 5; setting++) {
                ask("setting", piano, note, setting);
            }
            for (char what : LIMITS) {
                ask("isWithin", piano, note, what);
                ask("blame", piano, note, what);
            }
        }
    }

    private void tellPiece() {
        if (!ask("perform", 0, 500).endsWith("Exception")) {
            ask("checksum", 0);
            ask("blows", 0, 0);
            ask("blows", 0, 1);
            ask("back");
        }
        ask("type", 1, 1);
        ask("wipe");
    }

    private void tellBack() {
        for (int i = 0; i < 4; i++) {
            ask("back");
            for (int piano = 0; piano < 2; piano++) {
                ask("checksum", piano);
                ask("minutes", piano);
                ask("moisture", piano);
                ask("blame", piano, 0, 'a');
                ask("blame", piano, 0, 'p');
            }
        }
    }
}
