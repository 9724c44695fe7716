import java.util.NoSuchElementException;

/** Promises 38 to 42. */
public final class ActsTest {
    private static final Class<IndexOutOfBoundsException> INDEX = IndexOutOfBoundsException.class;
    private static final Class<IllegalStateException> STATE = IllegalStateException.class;
    private static final Class<NoSuchElementException> NONE = NoSuchElementException.class;

    public static void main(String[] args) {
        acts();
        actAt();
        pianoOf();
        back();
        backOfBlame();
        backLeavesLimitsAndPiece();
        backMakesRoom();
        minutes();
        Checks.end("ActsTest");
    }

    /** Nine acts, one of each kind, in turn on pianos 0 and 1. */
    private static Hammerline nineActs() {
        Hammerline x = new Hammerline();
        x.piano(39, 2, 20000);
        x.piano(39, 3, 20000);
        x.type(0, 9);
        x.string(0, 0, 830, 100, 3);
        x.weather(1, 3, 80);
        x.tune(0, 0, 500);
        x.needle(1, 2, 3);
        x.perform(0, 9);
        x.adjust(1, 2, 0, 9);
        x.play(0, 0, 9, 900);
        x.file(1, 2);
        x.harden(0, 1, 9);
        return x;
    }

    private static void acts() {
        Hammerline x = new Hammerline();
        Checks.same("none", 0, x.acts());
        x.piano(39, 2, 20000);
        x.limit(0, 'p', 1);
        x.type(0, 1);
        x.wipe();
        Checks.same("none of these is an act", 0, x.acts());
        Checks.refuses("refused", NONE, () -> x.pitch(0, 0));
        Checks.refuses("refused", UnsupportedOperationException.class, () -> x.tune(0, 0, 1));
        Checks.same("one that is refused is none", 0, x.acts());
        Checks.same("nine", 9, nineActs().acts());
        for (int i = 1; i <= 300; i++) {
            x.harden(0, 0, 1);
            Checks.same("acts", i, x.acts());
        }
        Checks.refuses("one more", STATE, () -> x.harden(0, 0, 1));
        Checks.same("300 at most", 300, x.acts());
    }

    private static void actAt() {
        Hammerline x = nineActs();
        String due = "swtncapfh";
        for (int i = 0; i < due.length(); i++) {
            Checks.same("actAt(" + i + ")", due.charAt(i), x.actAt(i));
        }
        for (int act : new int[] {-1, 9, 300, 299, Integer.MIN_VALUE, Integer.MAX_VALUE}) {
            Checks.refuses("actAt(" + act + ")", INDEX, () -> x.actAt(act));
        }
        x.back();
        Checks.refuses("taken back", INDEX, () -> x.actAt(8));
        Checks.same("the last one left", 'f', x.actAt(7));
    }

    private static void pianoOf() {
        Hammerline x = nineActs();
        for (int i = 0; i < 9; i++) {
            Checks.same("pianoOf(" + i + ")", i % 2, x.pianoOf(i));
        }
        for (int act : new int[] {-1, 9, 300, Integer.MIN_VALUE, Integer.MAX_VALUE}) {
            Checks.refuses("pianoOf(" + act + ")", INDEX, () -> x.pianoOf(act));
        }
        x.back();
        Checks.refuses("taken back", INDEX, () -> x.pianoOf(8));
        x.harden(1, 0, 1);
        Checks.same("done anew by another", 1, x.pianoOf(8));
    }

    private static String all(Hammerline x, int piano, int notes) {
        StringBuilder text = new StringBuilder();
        for (int i = 0; i < notes; i++) {
            int note = i;
            text.append(x.strings(piano, note)).append(' ').append(x.blows(piano, note)).append(' ');
            text.append(x.hardness(piano, note)).append(' ').append(x.felt(piano, note)).append(' ');
            text.append(Checks.answer(() -> x.pitch(piano, note))).append(' ');
            text.append(Checks.answer(() -> x.tension(piano, note))).append(' ');
            text.append(Checks.answer(() -> x.load(piano, note))).append(' ');
            for (int setting = 0; setting < 5; setting++) {
                text.append(x.setting(piano, note, setting)).append(' ');
            }
            for (char what : new char[] {'p', 'a', 't'}) {
                text.append(Checks.answer(() -> x.blame(piano, note, what))).append(' ');
            }
        }
        text.append(x.minutes(piano)).append(' ').append(x.moisture(piano));
        return text.append(' ').append(x.borne(piano)).toString();
    }

    private static void back() {
        Hammerline x = new Hammerline();
        x.piano(39, 3, 20000);
        x.piano(39, 3, 20000);
        x.limit(0, 'a', 20);
        x.type(0, 9);
        x.type(1, 4);
        Runnable[] acts = {
            () -> x.string(0, 0, 830, 100, 3), () -> x.string(0, 1, 600, 90, 2), () -> x.tune(0, 0, 400),
            () -> x.string(1, 2, 600, 90, 2), () -> x.adjust(0, 0, 0, -13), () -> x.needle(0, 1, 4),
            () -> x.harden(0, 2, 50), () -> x.file(0, 0), () -> x.play(0, 0, 9, 999), () -> x.perform(0, 500),
            () -> x.weather(0, 40, 90), () -> x.weather(1, 40, 2), () -> x.string(0, 0, 500, 80, 1)
        };
        String kinds = "sstsanhfpcwws";
        String[] ahead = new String[acts.length];
        for (int i = 0; i < acts.length; i++) {
            ahead[i] = all(x, 0, 3) + all(x, 1, 3);
            acts[i].run();
        }
        for (int i = acts.length - 1; i >= 0; i--) {
            Checks.same("back of " + i, kinds.charAt(i), x.back());
            Checks.same("all as ahead of " + i, ahead[i], all(x, 0, 3) + all(x, 1, 3));
            Checks.same("acts left", i, x.acts());
        }
        Checks.refuses("none left", NONE, x::back);
    }

    private static void backOfBlame() {
        Hammerline x = new Hammerline();
        x.piano(39, 1, 20000);
        x.limit(0, 'a', 20);
        x.adjust(0, 0, 2, 1);
        x.adjust(0, 0, 2, -1);
        x.adjust(0, 0, 2, 5);
        Checks.same("the last one", 2, x.blame(0, 0, 'a'));
        x.back();
        x.limit(0, 'a', 10);
        Checks.same("what was to blame ahead of it", 0, x.blame(0, 0, 'a'));
        x.back();
        x.back();
        Checks.refuses("nothing any more", NONE, () -> x.blame(0, 0, 'a'));
        Checks.same("sound", true, x.isSound());
        x.string(0, 0, 600, 100, 3);
        x.limit(0, 'p', 500);
        x.tune(0, 0, 500);
        x.harden(0, 0, 50);
        x.string(0, 0, 600, 100, 1);
        Checks.same("to blame for the pitch", 3, x.blame(0, 0, 'p'));
        Checks.same("to blame for the tone", 2, x.blame(0, 0, 't'));
        x.back();
        x.limit(0, 'p', 0);
        Checks.refuses("nothing for the pitch", NONE, () -> x.blame(0, 0, 'p'));
        Checks.same("the same for the tone", 2, x.blame(0, 0, 't'));
        x.back();
        Checks.refuses("tone within again", NONE, () -> x.blame(0, 0, 't'));
        x.limit(0, 't', 0);
        Checks.refuses("nothing for the tone", NONE, () -> x.blame(0, 0, 't'));
    }

    private static void backLeavesLimitsAndPiece() {
        Hammerline x = new Hammerline();
        x.piano(39, 1, 20000);
        x.harden(0, 0, 5);
        x.limit(0, 'p', 77);
        x.type(0, 1);
        x.piano(39, 1, 20000);
        x.back();
        Checks.same("limits stay", 77, x.limit(0, 'p', 1));
        Checks.same("the piece stays", 1, x.wipe());
        Checks.same("pianos stay", 50, x.hardness(1, 0));
    }

    private static void backMakesRoom() {
        Hammerline x = new Hammerline();
        x.piano(39, 24, 20000);
        x.piano(39, 1, 20000);
        for (int i = 0; i < 300; i++) {
            x.adjust(i % 2, 0, 2, 1);
        }
        Checks.same("299 is of piano 1", 170, x.setting(1, 0, 2));
        Checks.same("back", 'a', x.back());
        Checks.same("one less", 169, x.setting(1, 0, 2));
        x.needle(0, 23, 1);
        Checks.same("the last act", 'n', x.actAt(299));
        Checks.refuses("full again", STATE, () -> x.harden(0, 0, 1));
        for (int i = 0; i < 300; i++) {
            x.back();
        }
        Checks.same("as at first", 20, x.setting(0, 0, 2));
        Checks.same("as at first", 50, x.hardness(0, 23));
        Checks.same("as at first", 0, x.minutes(0) + x.minutes(1));
    }

    private static void minutes() {
        Hammerline x = new Hammerline();
        x.piano(39, 2, 20000);
        x.piano(39, 2, 20000);
        Checks.same("at first", 0, x.minutes(0));
        x.string(0, 0, 600, 100, 3);
        Checks.same("20 for each string", 60, x.minutes(0));
        x.tune(0, 0, 1);
        Checks.same("to tune 3", 63, x.minutes(0));
        x.adjust(0, 0, 0, 1);
        Checks.same("to adjust 2", 65, x.minutes(0));
        x.needle(0, 0, 20);
        Checks.same("to needle 1 for each time", 85, x.minutes(0));
        x.harden(0, 0, 9);
        Checks.same("to harden 4", 89, x.minutes(0));
        x.file(0, 0);
        Checks.same("to file 6", 95, x.minutes(0));
        x.play(0, 0, 1, 9);
        x.type(0, 1);
        x.perform(0, 9);
        x.weather(0, 9, 9);
        Checks.same("the others none", 95, x.minutes(0));
        Checks.same("another piano", 0, x.minutes(1));
        Checks.refuses("no piano", INDEX, () -> x.minutes(2));
        Checks.refuses("piano -1", INDEX, () -> x.minutes(-1));
    }
}
