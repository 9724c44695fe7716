import java.util.Arrays;

/** Long runs of calls, ordinary and wrong ones, answered by Hammerline and by Replay alike; always the same runs. */
public final class RandomRunsTest {
    private static final int RUNS = 300;
    private static final int CALLS = 512;
    private static final String[] OF_PIANO = {
        "borne", "uneven", "moisture", "faults", "isReady", "minutes", "checksum", "readyShare", "meanTone"
    };
    private static final String[] OF_NOTE = {
        "strings", "tension", "load", "pitch", "rateOf", "tone", "hardness", "felt", "blows", "worst"
    };

    private final String title;
    private final Hammerline real = new Hammerline();
    private final Replay replay = new Replay();
    private final int[] firsts = new int[4];
    private final int[] sizes = new int[4];
    private int pianos;
    private long seed;

    private RandomRunsTest(int run) {
        title = "run " + run + ", call ";
        seed = 7919L * run + 17;
    }

    public static void main(String[] args) {
        for (int run = 0; run < RUNS; run++) {
            new RandomRunsTest(run).run(run);
        }
        Checks.end("RandomRunsTest");
    }

    private int below(int bound) {
        seed = seed * 6364136223846793005L + 1442695040888963407L;
        return (int) ((seed >>> 33) % bound);
    }

    private int from(int least, int most) {
        return least + below(most - least + 1);
    }

    /** Most often a number of the range, now and then one of its edges or one beyond them. */
    private int near(int least, int most) {
        switch (below(24)) {
            case 0:
                return least;
            case 1:
                return most;
            case 2:
                return below(2) == 0 ? least - 1 : most + 1;
            case 3:
                return below(9) > 0 ? from(least, most) : below(2) == 0 ? Integer.MIN_VALUE : Integer.MAX_VALUE;
            default:
                return from(least, most);
        }
    }

    private int anyPiano() {
        return below(40) == 0 ? from(-1, 4) : below(Math.max(1, pianos));
    }

    private int anyNote(int piano) {
        int size = piano >= 0 && piano < pianos ? sizes[piano] : 1;
        return below(40) == 0 ? from(-1, size) : below(size);
    }

    private char anyLimit() {
        return below(30) == 0 ? (char) below(65536) : "pat".charAt(below(3));
    }

    private void run(int run) {
        addPiano();
        for (int call = 1; call < CALLS; call++) {
            step(call, run % 4);
            if (call % 32 == 0 || call == CALLS - 1) {
                compareAll(call);
            }
        }
    }

    private void step(int call, int kind) {
        int choice = below(100);
        if (choice < 2) {
            addPiano();
        } else if (choice < (kind == 0 ? 3 : kind == 1 ? 30 : 10)) {
            same(call, "back");
        } else if (choice < (kind == 2 ? 96 : 70)) {
            act(call, Calls.ACTS.get(below(Calls.ACTS.size())));
        } else if (choice < 78) {
            same(call, "limit", anyPiano(), anyLimit(), below(3) == 0 ? near(0, 999) : from(0, kind == 3 ? 999 : 60));
        } else if (choice < 84) {
            same(call, "type", below(3) == 0 ? near(0, 23) : below(4), near(1, 9));
        } else if (choice == 84) {
            same(call, "wipe");
        } else {
            ask(call);
        }
    }

    private void addPiano() {
        int first = near(0, 63);
        int notes = below(2) == 0 ? near(1, 24) : from(1, 5);
        int plate = below(3) == 0 ? near(1000, 250000) : from(3000, 90000);
        String made = same(0, "piano", first, notes, plate);
        if (made.length() == 1) {
            firsts[pianos] = first;
            sizes[pianos] = notes;
            pianos++;
        }
    }

    private void act(int call, String name) {
        int piano = anyPiano();
        int note = anyNote(piano);
        switch (name) {
            case "string" -> same(call, name, piano, note, length(piano, note), near(70, 160), near(1, 3));
            case "tune" -> same(call, name, piano, note, below(3) == 0 ? near(-500, 500) : towards(piano, note));
            case "adjust" -> {
                int setting = near(0, 4);
                int by = below(2) == 0 || setting < 0 || setting > 4 ? near(-50, 50) : settle(piano, note, setting);
                same(call, name, piano, note, setting, by);
            }
            case "needle" -> same(call, name, piano, note, near(1, 20));
            case "harden" -> same(call, name, piano, note, near(1, 50));
            case "file" -> same(call, name, piano, note);
            case "play" -> same(call, name, piano, note, near(1, 9), below(2) == 0 ? near(1, 9999) : from(1, 900));
            case "perform" -> same(call, name, piano, below(2) == 0 ? near(1, 999) : from(1, 60));
            default -> same(call, name, piano, below(2) == 0 ? near(1, 365) : from(1, 9), near(0, 99));
        }
    }

    /** Most often a length whose load is not far from where strings break. */
    private int length(int piano, int note) {
        if (piano < 0 || piano >= pianos || note < 0 || note >= sizes[piano] || below(5) == 0) {
            return near(50, 2000);
        }
        long rate = real.rate(firsts[piano] + note);
        return (int) Math.max(50, Math.min(2000, from(12000, 26000) * 1000L / rate));
    }

    private int towards(int piano, int note) {
        String pitch = Checks.answer(() -> real.pitch(piano, note));
        return pitch.endsWith("n") ? 7 : Math.max(-500, Math.min(500, from(-60, 60) - Integer.parseInt(pitch)));
    }

    private int settle(int piano, int note, int setting) {
        String now = Checks.answer(() -> real.setting(piano, note, setting));
        return now.endsWith("n") ? 7 : Math.max(-50, Math.min(50, from(-11, 11) - Integer.parseInt(now)));
    }

    private void ask(int call) {
        int piano = anyPiano();
        int note = anyNote(piano);
        switch (below(10)) {
            case 0 -> same(call, OF_PIANO[below(OF_PIANO.length)], piano);
            case 1 -> same(call, OF_NOTE[below(OF_NOTE.length)], piano, note);
            case 2 -> same(call, "beats", piano, note, near(1, 8), anyNote(piano), near(1, 8));
            case 3, 4 -> same(call, "quietest", piano, note, near(1, 8), anyNote(piano), near(1, 8));
            case 5 -> same(call, "blame", piano, note, anyLimit());
            case 6 -> same(call, "setting", piano, note, near(0, 4));
            case 7 -> same(call, "isWithin", piano, note, anyLimit());
            case 8 -> same(call, "fault", piano, near(0, 20));
            default -> same(call, below(2) == 0 ? "actAt" : "pianoOf", near(0, 300));
        }
    }

    private void compareAll(int call) {
        for (String name : new String[] {"acts", "readiest", "isSound"}) {
            same(call, name);
        }
        int acts = real.acts();
        for (int act = acts - 40; act <= acts; act++) {
            same(call, "actAt", act);
            same(call, "pianoOf", act);
        }
        for (int piano = -1; piano <= pianos; piano++) {
            for (String name : OF_PIANO) {
                same(call, name, piano);
            }
            for (int index = -1; index <= 73; index++) {
                same(call, "fault", piano, index);
            }
            int size = piano >= 0 && piano < pianos ? sizes[piano] : 0;
            for (int note = -1; note <= size; note++) {
                compareNote(call, piano, note);
            }
        }
    }

    private void compareNote(int call, int piano, int note) {
        for (String name : OF_NOTE) {
            same(call, name, piano, note);
        }
        for (int setting = -1; setting <= 5; setting++) {
            same(call, "setting", piano, note, setting);
        }
        for (char what : new char[] {'p', 'a', 't', 'q'}) {
            same(call, "isWithin", piano, note, what);
            same(call, "blame", piano, note, what);
        }
    }

    private String same(int call, String name, int... n) {
        String want = Calls.ACTS.contains(name) ? replay.act(name, n) : replay.other(name, n);
        String got = Calls.answer(real, name, n);
        Checks.same(title + call + ": " + name + Arrays.toString(n), want, got);
        return want;
    }
}
